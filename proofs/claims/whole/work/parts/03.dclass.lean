theorem dX0_init_0 : decode cX0_init 0 = .ok (.aload_n 0, 1) := by decide +kernel
theorem dX0_init_1 : decode cX0_init 1 = .ok (.invokespecial 3, 3) := by decide +kernel
theorem dX0_init_4 : decode cX0_init 4 = .ok (.aload_n 0, 1) := by decide +kernel
theorem dX0_init_5 : decode cX0_init 5 = .ok (.iconst (-1), 1) := by decide +kernel
theorem dX0_init_6 : decode cX0_init 6 = .ok (.putfield 9, 3) := by decide +kernel
theorem dX0_init_9 : decode cX0_init 9 = .ok (.return_, 1) := by decide +kernel
theorem dX0_speedWith_0 : decode cX0_speedWith 0 = .ok (.aload_n 0, 1) := by decide +kernel
theorem dX0_speedWith_1 : decode cX0_speedWith 1 = .ok (.getfield 15, 3) := by decide +kernel
theorem dX0_speedWith_4 : decode cX0_speedWith 4 = .ok (.i2d, 1) := by decide +kernel
theorem dX0_speedWith_5 : decode cX0_speedWith 5 = .ok (.ldc2_w 18, 3) := by decide +kernel
theorem dX0_speedWith_8 : decode cX0_speedWith 8 = .ok (.dmul, 1) := by decide +kernel
theorem dX0_speedWith_9 : decode cX0_speedWith 9 = .ok (.aload_n 1, 1) := by decide +kernel
theorem dX0_speedWith_10 : decode cX0_speedWith 10 = .ok (.getfield 20, 3) := by decide +kernel
theorem dX0_speedWith_13 : decode cX0_speedWith 13 = .ok (.i2d, 1) := by decide +kernel
theorem dX0_speedWith_14 : decode cX0_speedWith 14 = .ok (.ldc2_w 25, 3) := by decide +kernel
theorem dX0_speedWith_17 : decode cX0_speedWith 17 = .ok (.dadd, 1) := by decide +kernel
theorem dX0_speedWith_18 : decode cX0_speedWith 18 = .ok (.ddiv, 1) := by decide +kernel
theorem dX0_speedWith_19 : decode cX0_speedWith 19 = .ok (.dconst 1, 1) := by decide +kernel
theorem dX0_speedWith_20 : decode cX0_speedWith 20 = .ok (.aload_n 0, 1) := by decide +kernel
theorem dX0_speedWith_21 : decode cX0_speedWith 21 = .ok (.getfield 27, 3) := by decide +kernel
theorem dX0_speedWith_24 : decode cX0_speedWith 24 = .ok (.f2d, 1) := by decide +kernel
theorem dX0_speedWith_25 : decode cX0_speedWith 25 = .ok (.dsub, 1) := by decide +kernel
theorem dX0_speedWith_26 : decode cX0_speedWith 26 = .ok (.dmul, 1) := by decide +kernel
theorem dX0_speedWith_27 : decode cX0_speedWith 27 = .ok (.dreturn, 1) := by decide +kernel
theorem dX0_count_0 : decode cX0_count 0 = .ok (.aload_n 0, 1) := by decide +kernel
theorem dX0_count_1 : decode cX0_count 1 = .ok (.dup, 1) := by decide +kernel
theorem dX0_count_2 : decode cX0_count 2 = .ok (.getfield 31, 3) := by decide +kernel
theorem dX0_count_5 : decode cX0_count 5 = .ok (.iconst 1, 1) := by decide +kernel
theorem dX0_count_6 : decode cX0_count 6 = .ok (.iadd, 1) := by decide +kernel
theorem dX0_count_7 : decode cX0_count 7 = .ok (.putfield 31, 3) := by decide +kernel
theorem dX0_count_10 : decode cX0_count 10 = .ok (.aload_n 0, 1) := by decide +kernel
theorem dX0_count_11 : decode cX0_count 11 = .ok (.dup, 1) := by decide +kernel
theorem dX0_count_12 : decode cX0_count 12 = .ok (.getfield 34, 3) := by decide +kernel
theorem dX0_count_15 : decode cX0_count 15 = .ok (.iload_n 1, 1) := by decide +kernel
theorem dX0_count_16 : decode cX0_count 16 = .ok (.iadd, 1) := by decide +kernel
theorem dX0_count_17 : decode cX0_count 17 = .ok (.putfield 34, 3) := by decide +kernel
theorem dX0_count_20 : decode cX0_count 20 = .ok (.aload_n 0, 1) := by decide +kernel
theorem dX0_count_21 : decode cX0_count 21 = .ok (.dup, 1) := by decide +kernel
theorem dX0_count_22 : decode cX0_count 22 = .ok (.getfield 37, 3) := by decide +kernel
theorem dX0_count_25 : decode cX0_count 25 = .ok (.iconst 1, 1) := by decide +kernel
theorem dX0_count_26 : decode cX0_count 26 = .ok (.iadd, 1) := by decide +kernel
theorem dX0_count_27 : decode cX0_count 27 = .ok (.putfield 37, 3) := by decide +kernel
theorem dX0_count_30 : decode cX0_count 30 = .ok (.aload_n 0, 1) := by decide +kernel
theorem dX0_count_31 : decode cX0_count 31 = .ok (.dup, 1) := by decide +kernel
theorem dX0_count_32 : decode cX0_count 32 = .ok (.getfield 40, 3) := by decide +kernel
theorem dX0_count_35 : decode cX0_count 35 = .ok (.iload_n 1, 1) := by decide +kernel
theorem dX0_count_36 : decode cX0_count 36 = .ok (.iadd, 1) := by decide +kernel
theorem dX0_count_37 : decode cX0_count 37 = .ok (.putfield 40, 3) := by decide +kernel
theorem dX0_count_40 : decode cX0_count 40 = .ok (.iload_n 1, 1) := by decide +kernel
theorem dX0_count_41 : decode cX0_count 41 = .ok (.bipush 10, 2) := by decide +kernel
theorem dX0_count_43 : decode cX0_count 43 = .ok (.if_icmp .ne 13, 3) := by decide +kernel
theorem dX0_count_46 : decode cX0_count 46 = .ok (.aload_n 0, 1) := by decide +kernel
theorem dX0_count_47 : decode cX0_count 47 = .ok (.dup, 1) := by decide +kernel
theorem dX0_count_48 : decode cX0_count 48 = .ok (.getfield 43, 3) := by decide +kernel
theorem dX0_count_51 : decode cX0_count 51 = .ok (.iconst 1, 1) := by decide +kernel
theorem dX0_count_52 : decode cX0_count 52 = .ok (.iadd, 1) := by decide +kernel
theorem dX0_count_53 : decode cX0_count 53 = .ok (.putfield 43, 3) := by decide +kernel
theorem dX0_count_56 : decode cX0_count 56 = .ok (.aload_n 0, 1) := by decide +kernel
theorem dX0_count_57 : decode cX0_count 57 = .ok (.getfield 27, 3) := by decide +kernel
theorem dX0_count_60 : decode cX0_count 60 = .ok (.ldc 46, 2) := by decide +kernel
theorem dX0_count_62 : decode cX0_count 62 = .ok (.fadd, 1) := by decide +kernel
theorem dX0_count_63 : decode cX0_count 63 = .ok (.fstore_n 2, 1) := by decide +kernel
theorem dX0_count_64 : decode cX0_count 64 = .ok (.aload_n 0, 1) := by decide +kernel
theorem dX0_count_65 : decode cX0_count 65 = .ok (.fload_n 2, 1) := by decide +kernel
theorem dX0_count_66 : decode cX0_count 66 = .ok (.ldc 47, 2) := by decide +kernel
theorem dX0_count_68 : decode cX0_count 68 = .ok (.fcmp .l, 1) := by decide +kernel
theorem dX0_count_69 : decode cX0_count 69 = .ok (.ifCond .le 8, 3) := by decide +kernel
theorem dX0_count_72 : decode cX0_count 72 = .ok (.ldc 47, 2) := by decide +kernel
theorem dX0_count_74 : decode cX0_count 74 = .ok (.goto 4, 3) := by decide +kernel
theorem dX0_count_77 : decode cX0_count 77 = .ok (.fload_n 2, 1) := by decide +kernel
theorem dX0_count_78 : decode cX0_count 78 = .ok (.putfield 27, 3) := by decide +kernel
theorem dX0_count_81 : decode cX0_count 81 = .ok (.return_, 1) := by decide +kernel
theorem dX0_forgetEnd_0 : decode cX0_forgetEnd 0 = .ok (.aload_n 0, 1) := by decide +kernel
theorem dX0_forgetEnd_1 : decode cX0_forgetEnd 1 = .ok (.iconst 0, 1) := by decide +kernel
theorem dX0_forgetEnd_2 : decode cX0_forgetEnd 2 = .ok (.putfield 40, 3) := by decide +kernel
theorem dX0_forgetEnd_5 : decode cX0_forgetEnd 5 = .ok (.aload_n 0, 1) := by decide +kernel
theorem dX0_forgetEnd_6 : decode cX0_forgetEnd 6 = .ok (.iconst 0, 1) := by decide +kernel
theorem dX0_forgetEnd_7 : decode cX0_forgetEnd 7 = .ok (.putfield 37, 3) := by decide +kernel
theorem dX0_forgetEnd_10 : decode cX0_forgetEnd 10 = .ok (.aload_n 0, 1) := by decide +kernel
theorem dX0_forgetEnd_11 : decode cX0_forgetEnd 11 = .ok (.iconst 0, 1) := by decide +kernel
theorem dX0_forgetEnd_12 : decode cX0_forgetEnd 12 = .ok (.putfield 43, 3) := by decide +kernel
theorem dX0_forgetEnd_15 : decode cX0_forgetEnd 15 = .ok (.return_, 1) := by decide +kernel
theorem dX1_init_0 : decode cX1_init 0 = .ok (.aload_n 0, 1) := by decide +kernel
theorem dX1_init_1 : decode cX1_init 1 = .ok (.invokespecial 3, 3) := by decide +kernel
theorem dX1_init_4 : decode cX1_init 4 = .ok (.return_, 1) := by decide +kernel
set_option maxRecDepth 20000 in
theorem ggX1_fly_X0_speedWith : GoodIn wsX1_fly wsX0_speedWith := goodIn_r _ [16, 17, 18, 19, 20, 21, 22, 23, 24, 25, 26, 27, 28, 29, 30, 31, 32, 33, 34, 35, 36, 37, 38] (by decide +kernel) (by decide +kernel)
set_option maxRecDepth 20000 in
theorem gX1_fly_X0_speedWith : GoodIn wsX1_fly (wsV RX1 9 RX0 yX0_speedWith wsX0_speedWith) := goodIn_app (goodIn_of _ (by decide +kernel)) ggX1_fly_X0_speedWith
theorem dX1_fly_0 : decode cX1_fly 0 = .ok (.aload_n 1, 1) := by decide +kernel
theorem dX1_fly_1 : decode cX1_fly 1 = .ok (.aload_n 2, 1) := by decide +kernel
theorem dX1_fly_2 : decode cX1_fly 2 = .ok (.invokevirtual 9, 3) := by decide +kernel
theorem dX1_fly_5 : decode cX1_fly 5 = .ok (.dstore 6, 2) := by decide +kernel
theorem dX1_fly_7 : decode cX1_fly 7 = .ok (.dload 6, 2) := by decide +kernel
theorem dX1_fly_9 : decode cX1_fly 9 = .ok (.iload_n 3, 1) := by decide +kernel
theorem dX1_fly_10 : decode cX1_fly 10 = .ok (.i2d, 1) := by decide +kernel
theorem dX1_fly_11 : decode cX1_fly 11 = .ok (.dmul, 1) := by decide +kernel
theorem dX1_fly_12 : decode cX1_fly 12 = .ok (.ldc2_w 15, 3) := by decide +kernel
theorem dX1_fly_15 : decode cX1_fly 15 = .ok (.ddiv, 1) := by decide +kernel
theorem dX1_fly_16 : decode cX1_fly 16 = .ok (.aload_n 1, 1) := by decide +kernel
theorem dX1_fly_17 : decode cX1_fly 17 = .ok (.getfield 17, 3) := by decide +kernel
theorem dX1_fly_20 : decode cX1_fly 20 = .ok (.i2d, 1) := by decide +kernel
theorem dX1_fly_21 : decode cX1_fly 21 = .ok (.ldc2_w 21, 3) := by decide +kernel
theorem dX1_fly_24 : decode cX1_fly 24 = .ok (.ddiv, 1) := by decide +kernel
theorem dX1_fly_25 : decode cX1_fly 25 = .ok (.dadd, 1) := by decide +kernel
theorem dX1_fly_26 : decode cX1_fly 26 = .ok (.dstore 8, 2) := by decide +kernel
theorem dX1_fly_28 : decode cX1_fly 28 = .ok (.aload_n 2, 1) := by decide +kernel
theorem dX1_fly_29 : decode cX1_fly 29 = .ok (.getfield 23, 3) := by decide +kernel
theorem dX1_fly_32 : decode cX1_fly 32 = .ok (.sipush 1300, 3) := by decide +kernel
theorem dX1_fly_35 : decode cX1_fly 35 = .ok (.bipush 14, 2) := by decide +kernel
theorem dX1_fly_37 : decode cX1_fly 37 = .ok (.aload_n 1, 1) := by decide +kernel
theorem dX1_fly_38 : decode cX1_fly 38 = .ok (.getfield 28, 3) := by decide +kernel
theorem dX1_fly_41 : decode cX1_fly 41 = .ok (.imul, 1) := by decide +kernel
theorem dX1_fly_42 : decode cX1_fly 42 = .ok (.isub, 1) := by decide +kernel
theorem dX1_fly_43 : decode cX1_fly 43 = .ok (.isub, 1) := by decide +kernel
theorem dX1_fly_44 : decode cX1_fly 44 = .ok (.i2d, 1) := by decide +kernel
theorem dX1_fly_45 : decode cX1_fly 45 = .ok (.ldc2_w 31, 3) := by decide +kernel
theorem dX1_fly_48 : decode cX1_fly 48 = .ok (.ddiv, 1) := by decide +kernel
theorem dX1_fly_49 : decode cX1_fly 49 = .ok (.dstore 10, 2) := by decide +kernel
theorem dX1_fly_51 : decode cX1_fly 51 = .ok (.dconst 0, 1) := by decide +kernel
theorem dX1_fly_52 : decode cX1_fly 52 = .ok (.dstore 12, 2) := by decide +kernel
theorem dX1_fly_54 : decode cX1_fly 54 = .ok (.aload_n 0, 1) := by decide +kernel
theorem dX1_fly_55 : decode cX1_fly 55 = .ok (.dconst 0, 1) := by decide +kernel
theorem dX1_fly_56 : decode cX1_fly 56 = .ok (.putfield 33, 3) := by decide +kernel
theorem dX1_fly_59 : decode cX1_fly 59 = .ok (.aload_n 0, 1) := by decide +kernel
theorem dX1_fly_60 : decode cX1_fly 60 = .ok (.dconst 0, 1) := by decide +kernel
theorem dX1_fly_61 : decode cX1_fly 61 = .ok (.putfield 39, 3) := by decide +kernel
theorem dX1_fly_64 : decode cX1_fly 64 = .ok (.iconst 0, 1) := by decide +kernel
theorem dX1_fly_65 : decode cX1_fly 65 = .ok (.istore 14, 2) := by decide +kernel
theorem dX1_fly_67 : decode cX1_fly 67 = .ok (.iload 14, 2) := by decide +kernel
theorem dX1_fly_69 : decode cX1_fly 69 = .ok (.sipush 10000, 3) := by decide +kernel
theorem dX1_fly_72 : decode cX1_fly 72 = .ok (.if_icmp .ge 90, 3) := by decide +kernel
theorem dX1_fly_75 : decode cX1_fly 75 = .ok (.dload 12, 2) := by decide +kernel
theorem dX1_fly_77 : decode cX1_fly 77 = .ok (.iload 4, 2) := by decide +kernel
theorem dX1_fly_79 : decode cX1_fly 79 = .ok (.i2d, 1) := by decide +kernel
theorem dX1_fly_80 : decode cX1_fly 80 = .ok (.dcmp .g, 1) := by decide +kernel
theorem dX1_fly_81 : decode cX1_fly 81 = .ok (.ifCond .ge 81, 3) := by decide +kernel
theorem dX1_fly_84 : decode cX1_fly 84 = .ok (.dload 12, 2) := by decide +kernel
theorem dX1_fly_86 : decode cX1_fly 86 = .ok (.dload 6, 2) := by decide +kernel
theorem dX1_fly_88 : decode cX1_fly 88 = .ok (.ldc2_w 42, 3) := by decide +kernel
theorem dX1_fly_91 : decode cX1_fly 91 = .ok (.ddiv, 1) := by decide +kernel
theorem dX1_fly_92 : decode cX1_fly 92 = .ok (.dadd, 1) := by decide +kernel
theorem dX1_fly_93 : decode cX1_fly 93 = .ok (.dstore 12, 2) := by decide +kernel
theorem dX1_fly_95 : decode cX1_fly 95 = .ok (.aload_n 0, 1) := by decide +kernel
theorem dX1_fly_96 : decode cX1_fly 96 = .ok (.dup, 1) := by decide +kernel
theorem dX1_fly_97 : decode cX1_fly 97 = .ok (.getfield 39, 3) := by decide +kernel
theorem dX1_fly_100 : decode cX1_fly 100 = .ok (.dload 8, 2) := by decide +kernel
theorem dX1_fly_102 : decode cX1_fly 102 = .ok (.ldc2_w 42, 3) := by decide +kernel
theorem dX1_fly_105 : decode cX1_fly 105 = .ok (.ddiv, 1) := by decide +kernel
theorem dX1_fly_106 : decode cX1_fly 106 = .ok (.dadd, 1) := by decide +kernel
theorem dX1_fly_107 : decode cX1_fly 107 = .ok (.putfield 39, 3) := by decide +kernel
theorem dX1_fly_110 : decode cX1_fly 110 = .ok (.aload_n 0, 1) := by decide +kernel
theorem dX1_fly_111 : decode cX1_fly 111 = .ok (.dup, 1) := by decide +kernel
theorem dX1_fly_112 : decode cX1_fly 112 = .ok (.getfield 33, 3) := by decide +kernel
theorem dX1_fly_115 : decode cX1_fly 115 = .ok (.dload 10, 2) := by decide +kernel
theorem dX1_fly_117 : decode cX1_fly 117 = .ok (.ldc2_w 42, 3) := by decide +kernel
theorem dX1_fly_120 : decode cX1_fly 120 = .ok (.ddiv, 1) := by decide +kernel
theorem dX1_fly_121 : decode cX1_fly 121 = .ok (.dadd, 1) := by decide +kernel
theorem dX1_fly_122 : decode cX1_fly 122 = .ok (.putfield 33, 3) := by decide +kernel
theorem dX1_fly_125 : decode cX1_fly 125 = .ok (.dload 6, 2) := by decide +kernel
theorem dX1_fly_127 : decode cX1_fly 127 = .ok (.dload 6, 2) := by decide +kernel
theorem dX1_fly_129 : decode cX1_fly 129 = .ok (.ldc2_w 31, 3) := by decide +kernel
theorem dX1_fly_132 : decode cX1_fly 132 = .ok (.ddiv, 1) := by decide +kernel
theorem dX1_fly_133 : decode cX1_fly 133 = .ok (.dsub, 1) := by decide +kernel
theorem dX1_fly_134 : decode cX1_fly 134 = .ok (.dstore 6, 2) := by decide +kernel
theorem dX1_fly_136 : decode cX1_fly 136 = .ok (.dload 8, 2) := by decide +kernel
theorem dX1_fly_138 : decode cX1_fly 138 = .ok (.ldc2_w 44, 3) := by decide +kernel
theorem dX1_fly_141 : decode cX1_fly 141 = .ok (.dsub, 1) := by decide +kernel
theorem dX1_fly_142 : decode cX1_fly 142 = .ok (.dstore 8, 2) := by decide +kernel
theorem dX1_fly_144 : decode cX1_fly 144 = .ok (.dload 10, 2) := by decide +kernel
theorem dX1_fly_146 : decode cX1_fly 146 = .ok (.iload 5, 2) := by decide +kernel
theorem dX1_fly_148 : decode cX1_fly 148 = .ok (.i2d, 1) := by decide +kernel
theorem dX1_fly_149 : decode cX1_fly 149 = .ok (.ldc2_w 46, 3) := by decide +kernel
theorem dX1_fly_152 : decode cX1_fly 152 = .ok (.ddiv, 1) := by decide +kernel
theorem dX1_fly_153 : decode cX1_fly 153 = .ok (.dadd, 1) := by decide +kernel
theorem dX1_fly_154 : decode cX1_fly 154 = .ok (.dstore 10, 2) := by decide +kernel
theorem dX1_fly_156 : decode cX1_fly 156 = .ok (.iinc 14 1, 3) := by decide +kernel
theorem dX1_fly_159 : decode cX1_fly 159 = .ok (.goto (-92), 3) := by decide +kernel
theorem dX1_fly_162 : decode cX1_fly 162 = .ok (.return_, 1) := by decide +kernel
theorem dX1_shake_0 : decode cX1_shake 0 = .ok (.aload_n 0, 1) := by decide +kernel
theorem dX1_shake_1 : decode cX1_shake 1 = .ok (.dup, 1) := by decide +kernel
theorem dX1_shake_2 : decode cX1_shake 2 = .ok (.getfield 33, 3) := by decide +kernel
theorem dX1_shake_5 : decode cX1_shake 5 = .ok (.iload_n 1, 1) := by decide +kernel
theorem dX1_shake_6 : decode cX1_shake 6 = .ok (.bipush 8, 2) := by decide +kernel
theorem dX1_shake_8 : decode cX1_shake 8 = .ok (.irem, 1) := by decide +kernel
theorem dX1_shake_9 : decode cX1_shake 9 = .ok (.i2d, 1) := by decide +kernel
theorem dX1_shake_10 : decode cX1_shake 10 = .ok (.ldc2_w 48, 3) := by decide +kernel
theorem dX1_shake_13 : decode cX1_shake 13 = .ok (.dsub, 1) := by decide +kernel
theorem dX1_shake_14 : decode cX1_shake 14 = .ok (.bipush 9, 2) := by decide +kernel
theorem dX1_shake_16 : decode cX1_shake 16 = .ok (.iload_n 2, 1) := by decide +kernel
theorem dX1_shake_17 : decode cX1_shake 17 = .ok (.isub, 1) := by decide +kernel
theorem dX1_shake_18 : decode cX1_shake 18 = .ok (.i2d, 1) := by decide +kernel
theorem dX1_shake_19 : decode cX1_shake 19 = .ok (.dmul, 1) := by decide +kernel
theorem dX1_shake_20 : decode cX1_shake 20 = .ok (.iload_n 3, 1) := by decide +kernel
theorem dX1_shake_21 : decode cX1_shake 21 = .ok (.i2d, 1) := by decide +kernel
theorem dX1_shake_22 : decode cX1_shake 22 = .ok (.dmul, 1) := by decide +kernel
theorem dX1_shake_23 : decode cX1_shake 23 = .ok (.ldc2_w 50, 3) := by decide +kernel
theorem dX1_shake_26 : decode cX1_shake 26 = .ok (.ddiv, 1) := by decide +kernel
theorem dX1_shake_27 : decode cX1_shake 27 = .ok (.dadd, 1) := by decide +kernel
theorem dX1_shake_28 : decode cX1_shake 28 = .ok (.putfield 33, 3) := by decide +kernel
theorem dX1_shake_31 : decode cX1_shake 31 = .ok (.aload_n 0, 1) := by decide +kernel
theorem dX1_shake_32 : decode cX1_shake 32 = .ok (.dup, 1) := by decide +kernel
theorem dX1_shake_33 : decode cX1_shake 33 = .ok (.getfield 39, 3) := by decide +kernel
theorem dX1_shake_36 : decode cX1_shake 36 = .ok (.iload_n 1, 1) := by decide +kernel
theorem dX1_shake_37 : decode cX1_shake 37 = .ok (.bipush 8, 2) := by decide +kernel
theorem dX1_shake_39 : decode cX1_shake 39 = .ok (.idiv, 1) := by decide +kernel
theorem dX1_shake_40 : decode cX1_shake 40 = .ok (.i2d, 1) := by decide +kernel
theorem dX1_shake_41 : decode cX1_shake 41 = .ok (.ldc2_w 48, 3) := by decide +kernel
theorem dX1_shake_44 : decode cX1_shake 44 = .ok (.dsub, 1) := by decide +kernel
theorem dX1_shake_45 : decode cX1_shake 45 = .ok (.bipush 9, 2) := by decide +kernel
theorem dX1_shake_47 : decode cX1_shake 47 = .ok (.iload_n 2, 1) := by decide +kernel
theorem dX1_shake_48 : decode cX1_shake 48 = .ok (.isub, 1) := by decide +kernel
theorem dX1_shake_49 : decode cX1_shake 49 = .ok (.i2d, 1) := by decide +kernel
theorem dX1_shake_50 : decode cX1_shake 50 = .ok (.dmul, 1) := by decide +kernel
theorem dX1_shake_51 : decode cX1_shake 51 = .ok (.iload_n 3, 1) := by decide +kernel
theorem dX1_shake_52 : decode cX1_shake 52 = .ok (.i2d, 1) := by decide +kernel
theorem dX1_shake_53 : decode cX1_shake 53 = .ok (.dmul, 1) := by decide +kernel
theorem dX1_shake_54 : decode cX1_shake 54 = .ok (.ldc2_w 50, 3) := by decide +kernel
theorem dX1_shake_57 : decode cX1_shake 57 = .ok (.ddiv, 1) := by decide +kernel
theorem dX1_shake_58 : decode cX1_shake 58 = .ok (.dadd, 1) := by decide +kernel
theorem dX1_shake_59 : decode cX1_shake 59 = .ok (.putfield 39, 3) := by decide +kernel
theorem dX1_shake_62 : decode cX1_shake 62 = .ok (.return_, 1) := by decide +kernel
theorem dX1_farness_0 : decode cX1_farness 0 = .ok (.aload_n 0, 1) := by decide +kernel
theorem dX1_farness_1 : decode cX1_farness 1 = .ok (.getfield 33, 3) := by decide +kernel
theorem dX1_farness_4 : decode cX1_farness 4 = .ok (.aload_n 0, 1) := by decide +kernel
theorem dX1_farness_5 : decode cX1_farness 5 = .ok (.getfield 33, 3) := by decide +kernel
theorem dX1_farness_8 : decode cX1_farness 8 = .ok (.dmul, 1) := by decide +kernel
theorem dX1_farness_9 : decode cX1_farness 9 = .ok (.aload_n 0, 1) := by decide +kernel
theorem dX1_farness_10 : decode cX1_farness 10 = .ok (.getfield 39, 3) := by decide +kernel
theorem dX1_farness_13 : decode cX1_farness 13 = .ok (.aload_n 0, 1) := by decide +kernel
theorem dX1_farness_14 : decode cX1_farness 14 = .ok (.getfield 39, 3) := by decide +kernel
theorem dX1_farness_17 : decode cX1_farness 17 = .ok (.dmul, 1) := by decide +kernel
theorem dX1_farness_18 : decode cX1_farness 18 = .ok (.dadd, 1) := by decide +kernel
theorem dX1_farness_19 : decode cX1_farness 19 = .ok (.dreturn, 1) := by decide +kernel
set_option maxRecDepth 20000 in
theorem ggX1_worth_X1_farness : GoodIn wsX1_worth wsX1_farness := goodIn_r _ [7, 8, 9, 10, 11] (by decide +kernel) (by decide +kernel)
set_option maxRecDepth 20000 in
theorem gX1_worth_X1_farness : GoodIn wsX1_worth (wsV RX1 52 RX1 yX1_farness wsX1_farness) := goodIn_app (goodIn_of _ (by decide +kernel)) ggX1_worth_X1_farness
theorem dX1_worth_0 : decode cX1_worth 0 = .ok (.aload_n 0, 1) := by decide +kernel
theorem dX1_worth_1 : decode cX1_worth 1 = .ok (.invokevirtual 52, 3) := by decide +kernel
theorem dX1_worth_4 : decode cX1_worth 4 = .ok (.dstore_n 2, 1) := by decide +kernel
theorem dX1_worth_5 : decode cX1_worth 5 = .ok (.bipush 10, 2) := by decide +kernel
theorem dX1_worth_7 : decode cX1_worth 7 = .ok (.istore 4, 2) := by decide +kernel
theorem dX1_worth_9 : decode cX1_worth 9 = .ok (.iload 4, 2) := by decide +kernel
theorem dX1_worth_11 : decode cX1_worth 11 = .ok (.iconst 1, 1) := by decide +kernel
theorem dX1_worth_12 : decode cX1_worth 12 = .ok (.if_icmp .lt 40, 3) := by decide +kernel
theorem dX1_worth_15 : decode cX1_worth 15 = .ok (.iload_n 1, 1) := by decide +kernel
theorem dX1_worth_16 : decode cX1_worth 16 = .ok (.bipush 11, 2) := by decide +kernel
theorem dX1_worth_18 : decode cX1_worth 18 = .ok (.iload 4, 2) := by decide +kernel
theorem dX1_worth_20 : decode cX1_worth 20 = .ok (.isub, 1) := by decide +kernel
theorem dX1_worth_21 : decode cX1_worth 21 = .ok (.imul, 1) := by decide +kernel
theorem dX1_worth_22 : decode cX1_worth 22 = .ok (.i2d, 1) := by decide +kernel
theorem dX1_worth_23 : decode cX1_worth 23 = .ok (.ldc2_w 46, 3) := by decide +kernel
theorem dX1_worth_26 : decode cX1_worth 26 = .ok (.ddiv, 1) := by decide +kernel
theorem dX1_worth_27 : decode cX1_worth 27 = .ok (.ldc2_w 56, 3) := by decide +kernel
theorem dX1_worth_30 : decode cX1_worth 30 = .ok (.dadd, 1) := by decide +kernel
theorem dX1_worth_31 : decode cX1_worth 31 = .ok (.dstore 5, 2) := by decide +kernel
theorem dX1_worth_33 : decode cX1_worth 33 = .ok (.dload_n 2, 1) := by decide +kernel
theorem dX1_worth_34 : decode cX1_worth 34 = .ok (.dload 5, 2) := by decide +kernel
theorem dX1_worth_36 : decode cX1_worth 36 = .ok (.dload 5, 2) := by decide +kernel
theorem dX1_worth_38 : decode cX1_worth 38 = .ok (.dmul, 1) := by decide +kernel
theorem dX1_worth_39 : decode cX1_worth 39 = .ok (.dcmp .g, 1) := by decide +kernel
theorem dX1_worth_40 : decode cX1_worth 40 = .ok (.ifCond .gt 6, 3) := by decide +kernel
theorem dX1_worth_43 : decode cX1_worth 43 = .ok (.iload 4, 2) := by decide +kernel
theorem dX1_worth_45 : decode cX1_worth 45 = .ok (.ireturn, 1) := by decide +kernel
theorem dX1_worth_46 : decode cX1_worth 46 = .ok (.iinc 4 (-1), 3) := by decide +kernel
theorem dX1_worth_49 : decode cX1_worth 49 = .ok (.goto (-40), 3) := by decide +kernel
theorem dX1_worth_52 : decode cX1_worth 52 = .ok (.iconst 0, 1) := by decide +kernel
theorem dX1_worth_53 : decode cX1_worth 53 = .ok (.ireturn, 1) := by decide +kernel
theorem dX2_init_0 : decode cX2_init 0 = .ok (.aload_n 0, 1) := by decide +kernel
theorem dX2_init_1 : decode cX2_init 1 = .ok (.invokespecial 3, 3) := by decide +kernel
theorem dX2_init_4 : decode cX2_init 4 = .ok (.return_, 1) := by decide +kernel
set_option maxRecDepth 20000 in
theorem ggX2_begin_X2_beginSet : GoodIn wsX2_begin wsX2_beginSet := goodIn_r _ [11, 12, 13, 14, 15, 16, 17, 18, 19, 20, 21, 22, 23, 24] (by decide +kernel) (by decide +kernel)
set_option maxRecDepth 20000 in
theorem gX2_begin_X2_beginSet : GoodIn wsX2_begin (wsV RX2 31 RX2 yX2_beginSet wsX2_beginSet) := goodIn_app (goodIn_of _ (by decide +kernel)) ggX2_begin_X2_beginSet
theorem dX2_begin_0 : decode cX2_begin 0 = .ok (.aload_n 0, 1) := by decide +kernel
theorem dX2_begin_1 : decode cX2_begin 1 = .ok (.iconst 1, 1) := by decide +kernel
theorem dX2_begin_2 : decode cX2_begin 2 = .ok (.putfield 9, 3) := by decide +kernel
theorem dX2_begin_5 : decode cX2_begin 5 = .ok (.aload_n 0, 1) := by decide +kernel
theorem dX2_begin_6 : decode cX2_begin 6 = .ok (.iload_n 1, 1) := by decide +kernel
theorem dX2_begin_7 : decode cX2_begin 7 = .ok (.putfield 15, 3) := by decide +kernel
theorem dX2_begin_10 : decode cX2_begin 10 = .ok (.aload_n 0, 1) := by decide +kernel
theorem dX2_begin_11 : decode cX2_begin 11 = .ok (.iload_n 2, 1) := by decide +kernel
theorem dX2_begin_12 : decode cX2_begin 12 = .ok (.putfield 19, 3) := by decide +kernel
theorem dX2_begin_15 : decode cX2_begin 15 = .ok (.aload_n 0, 1) := by decide +kernel
theorem dX2_begin_16 : decode cX2_begin 16 = .ok (.iconst 0, 1) := by decide +kernel
theorem dX2_begin_17 : decode cX2_begin 17 = .ok (.putfield 22, 3) := by decide +kernel
theorem dX2_begin_20 : decode cX2_begin 20 = .ok (.aload_n 0, 1) := by decide +kernel
theorem dX2_begin_21 : decode cX2_begin 21 = .ok (.iconst 0, 1) := by decide +kernel
theorem dX2_begin_22 : decode cX2_begin 22 = .ok (.putfield 25, 3) := by decide +kernel
theorem dX2_begin_25 : decode cX2_begin 25 = .ok (.aload_n 0, 1) := by decide +kernel
theorem dX2_begin_26 : decode cX2_begin 26 = .ok (.iconst 0, 1) := by decide +kernel
theorem dX2_begin_27 : decode cX2_begin 27 = .ok (.putfield 28, 3) := by decide +kernel
theorem dX2_begin_30 : decode cX2_begin 30 = .ok (.aload_n 0, 1) := by decide +kernel
theorem dX2_begin_31 : decode cX2_begin 31 = .ok (.invokevirtual 31, 3) := by decide +kernel
theorem dX2_begin_34 : decode cX2_begin 34 = .ok (.return_, 1) := by decide +kernel
set_option maxRecDepth 20000 in
theorem ggX2_turn_X2_isTurnOfOne : GoodIn wsX2_turn wsX2_isTurnOfOne := goodIn_r _ [7, 8, 9, 10, 11, 12, 13, 14, 15, 16, 17, 18] (by decide +kernel) (by decide +kernel)
set_option maxRecDepth 20000 in
theorem gX2_turn_X2_isTurnOfOne : GoodIn wsX2_turn (wsV RX2 34 RX2 yX2_isTurnOfOne wsX2_isTurnOfOne) := goodIn_app (goodIn_of _ (by decide +kernel)) ggX2_turn_X2_isTurnOfOne
theorem dX2_turn_0 : decode cX2_turn 0 = .ok (.aload_n 0, 1) := by decide +kernel
theorem dX2_turn_1 : decode cX2_turn 1 = .ok (.invokevirtual 34, 3) := by decide +kernel
theorem dX2_turn_4 : decode cX2_turn 4 = .ok (.ifCond .eq 10, 3) := by decide +kernel
theorem dX2_turn_7 : decode cX2_turn 7 = .ok (.aload_n 0, 1) := by decide +kernel
theorem dX2_turn_8 : decode cX2_turn 8 = .ok (.getfield 15, 3) := by decide +kernel
theorem dX2_turn_11 : decode cX2_turn 11 = .ok (.goto 7, 3) := by decide +kernel
theorem dX2_turn_14 : decode cX2_turn 14 = .ok (.aload_n 0, 1) := by decide +kernel
theorem dX2_turn_15 : decode cX2_turn 15 = .ok (.getfield 19, 3) := by decide +kernel
theorem dX2_turn_18 : decode cX2_turn 18 = .ok (.ireturn, 1) := by decide +kernel
set_option maxRecDepth 20000 in
theorem ggX2_count_X2_countLastArrow : GoodIn wsX2_count wsX2_countLastArrow := goodIn_r _ [9, 10, 4, 11, 12, 13, 14, 15, 8, 16, 30, 31, 32, 33, 34, 35, 36, 37, 38, 39] (by decide +kernel) (by decide +kernel)
set_option maxRecDepth 20000 in
theorem gX2_count_X2_countLastArrow : GoodIn wsX2_count (wsV RX2 38 RX2 yX2_countLastArrow wsX2_countLastArrow) := goodIn_app (goodIn_of _ (by decide +kernel)) ggX2_count_X2_countLastArrow
set_option maxRecDepth 20000 in
theorem ggX2_count_X2_isTurnOfOne : GoodIn wsX2_count wsX2_isTurnOfOne := goodIn_r _ [16, 4, 30, 31, 32, 33, 34, 35, 36, 37, 38, 39] (by decide +kernel) (by decide +kernel)
set_option maxRecDepth 20000 in
theorem gX2_count_X2_isTurnOfOne : GoodIn wsX2_count (wsV RX2 34 RX2 yX2_isTurnOfOne wsX2_isTurnOfOne) := goodIn_app (goodIn_of _ (by decide +kernel)) ggX2_count_X2_isTurnOfOne
set_option maxRecDepth 20000 in
theorem ggX2_count_X2_endSet : GoodIn wsX2_count wsX2_endSet := goodIn_r _ [20, 21, 2, 3, 22, 1, 11, 12, 23, 24, 8, 25, 26, 27, 28, 29, 4, 30, 31, 32, 33, 34, 35, 36, 37, 38, 39] (by decide +kernel) (by decide +kernel)
set_option maxRecDepth 20000 in
theorem gX2_count_X2_endSet : GoodIn wsX2_count (wsV RX2 51 RX2 yX2_endSet wsX2_endSet) := goodIn_app (goodIn_of _ (by decide +kernel)) ggX2_count_X2_endSet
theorem dX2_count_0 : decode cX2_count 0 = .ok (.aload_n 0, 1) := by decide +kernel
theorem dX2_count_1 : decode cX2_count 1 = .ok (.getfield 28, 3) := by decide +kernel
theorem dX2_count_4 : decode cX2_count 4 = .ok (.ifCond .eq 9, 3) := by decide +kernel
theorem dX2_count_7 : decode cX2_count 7 = .ok (.aload_n 0, 1) := by decide +kernel
theorem dX2_count_8 : decode cX2_count 8 = .ok (.dload_n 2, 1) := by decide +kernel
theorem dX2_count_9 : decode cX2_count 9 = .ok (.invokevirtual 38, 3) := by decide +kernel
theorem dX2_count_12 : decode cX2_count 12 = .ok (.ireturn, 1) := by decide +kernel
theorem dX2_count_13 : decode cX2_count 13 = .ok (.aload_n 0, 1) := by decide +kernel
theorem dX2_count_14 : decode cX2_count 14 = .ok (.invokevirtual 34, 3) := by decide +kernel
theorem dX2_count_17 : decode cX2_count 17 = .ok (.ifCond .eq 16, 3) := by decide +kernel
theorem dX2_count_20 : decode cX2_count 20 = .ok (.aload_n 0, 1) := by decide +kernel
theorem dX2_count_21 : decode cX2_count 21 = .ok (.dup, 1) := by decide +kernel
theorem dX2_count_22 : decode cX2_count 22 = .ok (.getfield 42, 3) := by decide +kernel
theorem dX2_count_25 : decode cX2_count 25 = .ok (.iload_n 1, 1) := by decide +kernel
theorem dX2_count_26 : decode cX2_count 26 = .ok (.iadd, 1) := by decide +kernel
theorem dX2_count_27 : decode cX2_count 27 = .ok (.putfield 42, 3) := by decide +kernel
theorem dX2_count_30 : decode cX2_count 30 = .ok (.goto 13, 3) := by decide +kernel
theorem dX2_count_33 : decode cX2_count 33 = .ok (.aload_n 0, 1) := by decide +kernel
theorem dX2_count_34 : decode cX2_count 34 = .ok (.dup, 1) := by decide +kernel
theorem dX2_count_35 : decode cX2_count 35 = .ok (.getfield 45, 3) := by decide +kernel
theorem dX2_count_38 : decode cX2_count 38 = .ok (.iload_n 1, 1) := by decide +kernel
theorem dX2_count_39 : decode cX2_count 39 = .ok (.iadd, 1) := by decide +kernel
theorem dX2_count_40 : decode cX2_count 40 = .ok (.putfield 45, 3) := by decide +kernel
theorem dX2_count_43 : decode cX2_count 43 = .ok (.aload_n 0, 1) := by decide +kernel
theorem dX2_count_44 : decode cX2_count 44 = .ok (.dup, 1) := by decide +kernel
theorem dX2_count_45 : decode cX2_count 45 = .ok (.getfield 48, 3) := by decide +kernel
theorem dX2_count_48 : decode cX2_count 48 = .ok (.iconst 1, 1) := by decide +kernel
theorem dX2_count_49 : decode cX2_count 49 = .ok (.iadd, 1) := by decide +kernel
theorem dX2_count_50 : decode cX2_count 50 = .ok (.putfield 48, 3) := by decide +kernel
theorem dX2_count_53 : decode cX2_count 53 = .ok (.aload_n 0, 1) := by decide +kernel
theorem dX2_count_54 : decode cX2_count 54 = .ok (.getfield 48, 3) := by decide +kernel
theorem dX2_count_57 : decode cX2_count 57 = .ok (.iconst 4, 1) := by decide +kernel
theorem dX2_count_58 : decode cX2_count 58 = .ok (.if_icmp .ge 7, 3) := by decide +kernel
theorem dX2_count_61 : decode cX2_count 61 = .ok (.iconst (-1), 1) := by decide +kernel
theorem dX2_count_62 : decode cX2_count 62 = .ok (.goto 7, 3) := by decide +kernel
theorem dX2_count_65 : decode cX2_count 65 = .ok (.aload_n 0, 1) := by decide +kernel
theorem dX2_count_66 : decode cX2_count 66 = .ok (.invokevirtual 51, 3) := by decide +kernel
theorem dX2_count_69 : decode cX2_count 69 = .ok (.ireturn, 1) := by decide +kernel
theorem dX2_isTurnOfOne_0 : decode cX2_isTurnOfOne 0 = .ok (.aload_n 0, 1) := by decide +kernel
theorem dX2_isTurnOfOne_1 : decode cX2_isTurnOfOne 1 = .ok (.getfield 48, 3) := by decide +kernel
theorem dX2_isTurnOfOne_4 : decode cX2_isTurnOfOne 4 = .ok (.iconst 2, 1) := by decide +kernel
theorem dX2_isTurnOfOne_5 : decode cX2_isTurnOfOne 5 = .ok (.irem, 1) := by decide +kernel
theorem dX2_isTurnOfOne_6 : decode cX2_isTurnOfOne 6 = .ok (.ifCond .ne 7, 3) := by decide +kernel
theorem dX2_isTurnOfOne_9 : decode cX2_isTurnOfOne 9 = .ok (.iconst 1, 1) := by decide +kernel
theorem dX2_isTurnOfOne_10 : decode cX2_isTurnOfOne 10 = .ok (.goto 4, 3) := by decide +kernel
theorem dX2_isTurnOfOne_13 : decode cX2_isTurnOfOne 13 = .ok (.iconst 0, 1) := by decide +kernel
theorem dX2_isTurnOfOne_14 : decode cX2_isTurnOfOne 14 = .ok (.ireturn, 1) := by decide +kernel
theorem dX2_beginSet_0 : decode cX2_beginSet 0 = .ok (.aload_n 0, 1) := by decide +kernel
theorem dX2_beginSet_1 : decode cX2_beginSet 1 = .ok (.iconst 0, 1) := by decide +kernel
theorem dX2_beginSet_2 : decode cX2_beginSet 2 = .ok (.putfield 42, 3) := by decide +kernel
theorem dX2_beginSet_5 : decode cX2_beginSet 5 = .ok (.aload_n 0, 1) := by decide +kernel
theorem dX2_beginSet_6 : decode cX2_beginSet 6 = .ok (.iconst 0, 1) := by decide +kernel
theorem dX2_beginSet_7 : decode cX2_beginSet 7 = .ok (.putfield 45, 3) := by decide +kernel
theorem dX2_beginSet_10 : decode cX2_beginSet 10 = .ok (.aload_n 0, 1) := by decide +kernel
theorem dX2_beginSet_11 : decode cX2_beginSet 11 = .ok (.iconst 0, 1) := by decide +kernel
theorem dX2_beginSet_12 : decode cX2_beginSet 12 = .ok (.putfield 48, 3) := by decide +kernel
theorem dX2_beginSet_15 : decode cX2_beginSet 15 = .ok (.return_, 1) := by decide +kernel
set_option maxRecDepth 20000 in
theorem ggX2_endSet_X2_pointsFor : GoodIn wsX2_endSet wsX2_pointsFor := goodIn_r _ [11] (by decide +kernel) (by decide +kernel)
set_option maxRecDepth 20000 in
theorem gX2_endSet_X2_pointsFor : GoodIn wsX2_endSet (va_wsS RX2 55 yX2_pointsFor wsX2_pointsFor) := goodIn_app (goodIn_of _ (by decide +kernel)) ggX2_endSet_X2_pointsFor
set_option maxRecDepth 20000 in
theorem ggX2_endSet_X2_beginSet : GoodIn wsX2_endSet wsX2_beginSet := goodIn_r _ [15, 2, 3, 16, 17, 18, 19, 20, 21, 22, 23, 24, 25, 26] (by decide +kernel) (by decide +kernel)
set_option maxRecDepth 20000 in
theorem gX2_endSet_X2_beginSet : GoodIn wsX2_endSet (wsV RX2 31 RX2 yX2_beginSet wsX2_beginSet) := goodIn_app (goodIn_of _ (by decide +kernel)) ggX2_endSet_X2_beginSet
theorem dX2_endSet_0 : decode cX2_endSet 0 = .ok (.aload_n 0, 1) := by decide +kernel
theorem dX2_endSet_1 : decode cX2_endSet 1 = .ok (.dup, 1) := by decide +kernel
theorem dX2_endSet_2 : decode cX2_endSet 2 = .ok (.getfield 22, 3) := by decide +kernel
theorem dX2_endSet_5 : decode cX2_endSet 5 = .ok (.aload_n 0, 1) := by decide +kernel
theorem dX2_endSet_6 : decode cX2_endSet 6 = .ok (.getfield 42, 3) := by decide +kernel
theorem dX2_endSet_9 : decode cX2_endSet 9 = .ok (.aload_n 0, 1) := by decide +kernel
theorem dX2_endSet_10 : decode cX2_endSet 10 = .ok (.getfield 45, 3) := by decide +kernel
theorem dX2_endSet_13 : decode cX2_endSet 13 = .ok (.invokestatic 55, 3) := by decide +kernel
theorem dX2_endSet_16 : decode cX2_endSet 16 = .ok (.iadd, 1) := by decide +kernel
theorem dX2_endSet_17 : decode cX2_endSet 17 = .ok (.putfield 22, 3) := by decide +kernel
theorem dX2_endSet_20 : decode cX2_endSet 20 = .ok (.aload_n 0, 1) := by decide +kernel
theorem dX2_endSet_21 : decode cX2_endSet 21 = .ok (.dup, 1) := by decide +kernel
theorem dX2_endSet_22 : decode cX2_endSet 22 = .ok (.getfield 25, 3) := by decide +kernel
theorem dX2_endSet_25 : decode cX2_endSet 25 = .ok (.aload_n 0, 1) := by decide +kernel
theorem dX2_endSet_26 : decode cX2_endSet 26 = .ok (.getfield 45, 3) := by decide +kernel
theorem dX2_endSet_29 : decode cX2_endSet 29 = .ok (.aload_n 0, 1) := by decide +kernel
theorem dX2_endSet_30 : decode cX2_endSet 30 = .ok (.getfield 42, 3) := by decide +kernel
theorem dX2_endSet_33 : decode cX2_endSet 33 = .ok (.invokestatic 55, 3) := by decide +kernel
theorem dX2_endSet_36 : decode cX2_endSet 36 = .ok (.iadd, 1) := by decide +kernel
theorem dX2_endSet_37 : decode cX2_endSet 37 = .ok (.putfield 25, 3) := by decide +kernel
theorem dX2_endSet_40 : decode cX2_endSet 40 = .ok (.aload_n 0, 1) := by decide +kernel
theorem dX2_endSet_41 : decode cX2_endSet 41 = .ok (.invokevirtual 31, 3) := by decide +kernel
theorem dX2_endSet_44 : decode cX2_endSet 44 = .ok (.aload_n 0, 1) := by decide +kernel
theorem dX2_endSet_45 : decode cX2_endSet 45 = .ok (.getfield 22, 3) := by decide +kernel
theorem dX2_endSet_48 : decode cX2_endSet 48 = .ok (.iconst 4, 1) := by decide +kernel
theorem dX2_endSet_49 : decode cX2_endSet 49 = .ok (.if_icmp .lt 7, 3) := by decide +kernel
theorem dX2_endSet_52 : decode cX2_endSet 52 = .ok (.iconst 1, 1) := by decide +kernel
theorem dX2_endSet_53 : decode cX2_endSet 53 = .ok (.goto 4, 3) := by decide +kernel
theorem dX2_endSet_56 : decode cX2_endSet 56 = .ok (.iconst 0, 1) := by decide +kernel
theorem dX2_endSet_57 : decode cX2_endSet 57 = .ok (.istore_n 1, 1) := by decide +kernel
theorem dX2_endSet_58 : decode cX2_endSet 58 = .ok (.aload_n 0, 1) := by decide +kernel
theorem dX2_endSet_59 : decode cX2_endSet 59 = .ok (.getfield 25, 3) := by decide +kernel
theorem dX2_endSet_62 : decode cX2_endSet 62 = .ok (.iconst 4, 1) := by decide +kernel
theorem dX2_endSet_63 : decode cX2_endSet 63 = .ok (.if_icmp .lt 7, 3) := by decide +kernel
theorem dX2_endSet_66 : decode cX2_endSet 66 = .ok (.iconst 1, 1) := by decide +kernel
theorem dX2_endSet_67 : decode cX2_endSet 67 = .ok (.goto 4, 3) := by decide +kernel
theorem dX2_endSet_70 : decode cX2_endSet 70 = .ok (.iconst 0, 1) := by decide +kernel
theorem dX2_endSet_71 : decode cX2_endSet 71 = .ok (.istore_n 2, 1) := by decide +kernel
theorem dX2_endSet_72 : decode cX2_endSet 72 = .ok (.aload_n 0, 1) := by decide +kernel
theorem dX2_endSet_73 : decode cX2_endSet 73 = .ok (.iload_n 1, 1) := by decide +kernel
theorem dX2_endSet_74 : decode cX2_endSet 74 = .ok (.ifCond .eq 11, 3) := by decide +kernel
theorem dX2_endSet_77 : decode cX2_endSet 77 = .ok (.iload_n 2, 1) := by decide +kernel
theorem dX2_endSet_78 : decode cX2_endSet 78 = .ok (.ifCond .eq 7, 3) := by decide +kernel
theorem dX2_endSet_81 : decode cX2_endSet 81 = .ok (.iconst 1, 1) := by decide +kernel
theorem dX2_endSet_82 : decode cX2_endSet 82 = .ok (.goto 4, 3) := by decide +kernel
theorem dX2_endSet_85 : decode cX2_endSet 85 = .ok (.iconst 0, 1) := by decide +kernel
theorem dX2_endSet_86 : decode cX2_endSet 86 = .ok (.putfield 28, 3) := by decide +kernel
theorem dX2_endSet_89 : decode cX2_endSet 89 = .ok (.iload_n 1, 1) := by decide +kernel
theorem dX2_endSet_90 : decode cX2_endSet 90 = .ok (.iload_n 2, 1) := by decide +kernel
theorem dX2_endSet_91 : decode cX2_endSet 91 = .ok (.if_icmp .ne 5, 3) := by decide +kernel
theorem dX2_endSet_94 : decode cX2_endSet 94 = .ok (.iconst (-1), 1) := by decide +kernel
theorem dX2_endSet_95 : decode cX2_endSet 95 = .ok (.ireturn, 1) := by decide +kernel
theorem dX2_endSet_96 : decode cX2_endSet 96 = .ok (.iload_n 1, 1) := by decide +kernel
theorem dX2_endSet_97 : decode cX2_endSet 97 = .ok (.ifCond .eq 10, 3) := by decide +kernel
theorem dX2_endSet_100 : decode cX2_endSet 100 = .ok (.aload_n 0, 1) := by decide +kernel
theorem dX2_endSet_101 : decode cX2_endSet 101 = .ok (.getfield 15, 3) := by decide +kernel
theorem dX2_endSet_104 : decode cX2_endSet 104 = .ok (.goto 7, 3) := by decide +kernel
theorem dX2_endSet_107 : decode cX2_endSet 107 = .ok (.aload_n 0, 1) := by decide +kernel
theorem dX2_endSet_108 : decode cX2_endSet 108 = .ok (.getfield 19, 3) := by decide +kernel
theorem dX2_endSet_111 : decode cX2_endSet 111 = .ok (.ireturn, 1) := by decide +kernel
theorem dX2_pointsFor_0 : decode cX2_pointsFor 0 = .ok (.iload_n 0, 1) := by decide +kernel
theorem dX2_pointsFor_1 : decode cX2_pointsFor 1 = .ok (.iload_n 1, 1) := by decide +kernel
theorem dX2_pointsFor_2 : decode cX2_pointsFor 2 = .ok (.if_icmp .ne 5, 3) := by decide +kernel
theorem dX2_pointsFor_5 : decode cX2_pointsFor 5 = .ok (.iconst 1, 1) := by decide +kernel
theorem dX2_pointsFor_6 : decode cX2_pointsFor 6 = .ok (.ireturn, 1) := by decide +kernel
theorem dX2_pointsFor_7 : decode cX2_pointsFor 7 = .ok (.iload_n 0, 1) := by decide +kernel
theorem dX2_pointsFor_8 : decode cX2_pointsFor 8 = .ok (.iload_n 1, 1) := by decide +kernel
theorem dX2_pointsFor_9 : decode cX2_pointsFor 9 = .ok (.if_icmp .le 7, 3) := by decide +kernel
theorem dX2_pointsFor_12 : decode cX2_pointsFor 12 = .ok (.iconst 2, 1) := by decide +kernel
theorem dX2_pointsFor_13 : decode cX2_pointsFor 13 = .ok (.goto 4, 3) := by decide +kernel
theorem dX2_pointsFor_16 : decode cX2_pointsFor 16 = .ok (.iconst 0, 1) := by decide +kernel
theorem dX2_pointsFor_17 : decode cX2_pointsFor 17 = .ok (.ireturn, 1) := by decide +kernel
set_option maxRecDepth 20000 in
theorem ggX2_countLastArrow_X2_isTurnOfOne : GoodIn wsX2_countLastArrow wsX2_isTurnOfOne := goodIn_r _ [9, 2, 10, 11, 12, 13, 14, 15, 16, 17, 18, 19] (by decide +kernel) (by decide +kernel)
set_option maxRecDepth 20000 in
theorem gX2_countLastArrow_X2_isTurnOfOne : GoodIn wsX2_countLastArrow (wsV RX2 34 RX2 yX2_isTurnOfOne wsX2_isTurnOfOne) := goodIn_app (goodIn_of _ (by decide +kernel)) ggX2_countLastArrow_X2_isTurnOfOne
theorem dX2_countLastArrow_0 : decode cX2_countLastArrow 0 = .ok (.aload_n 0, 1) := by decide +kernel
theorem dX2_countLastArrow_1 : decode cX2_countLastArrow 1 = .ok (.invokevirtual 34, 3) := by decide +kernel
theorem dX2_countLastArrow_4 : decode cX2_countLastArrow 4 = .ok (.ifCond .eq 20, 3) := by decide +kernel
theorem dX2_countLastArrow_7 : decode cX2_countLastArrow 7 = .ok (.aload_n 0, 1) := by decide +kernel
theorem dX2_countLastArrow_8 : decode cX2_countLastArrow 8 = .ok (.dload_n 1, 1) := by decide +kernel
theorem dX2_countLastArrow_9 : decode cX2_countLastArrow 9 = .ok (.putfield 59, 3) := by decide +kernel
theorem dX2_countLastArrow_12 : decode cX2_countLastArrow 12 = .ok (.aload_n 0, 1) := by decide +kernel
theorem dX2_countLastArrow_13 : decode cX2_countLastArrow 13 = .ok (.dup, 1) := by decide +kernel
theorem dX2_countLastArrow_14 : decode cX2_countLastArrow 14 = .ok (.getfield 48, 3) := by decide +kernel
theorem dX2_countLastArrow_17 : decode cX2_countLastArrow 17 = .ok (.iconst 1, 1) := by decide +kernel
theorem dX2_countLastArrow_18 : decode cX2_countLastArrow 18 = .ok (.iadd, 1) := by decide +kernel
theorem dX2_countLastArrow_19 : decode cX2_countLastArrow 19 = .ok (.putfield 48, 3) := by decide +kernel
theorem dX2_countLastArrow_22 : decode cX2_countLastArrow 22 = .ok (.iconst (-1), 1) := by decide +kernel
theorem dX2_countLastArrow_23 : decode cX2_countLastArrow 23 = .ok (.ireturn, 1) := by decide +kernel
theorem dX2_countLastArrow_24 : decode cX2_countLastArrow 24 = .ok (.aload_n 0, 1) := by decide +kernel
theorem dX2_countLastArrow_25 : decode cX2_countLastArrow 25 = .ok (.iconst 0, 1) := by decide +kernel
theorem dX2_countLastArrow_26 : decode cX2_countLastArrow 26 = .ok (.putfield 48, 3) := by decide +kernel
theorem dX2_countLastArrow_29 : decode cX2_countLastArrow 29 = .ok (.dload_n 1, 1) := by decide +kernel
theorem dX2_countLastArrow_30 : decode cX2_countLastArrow 30 = .ok (.aload_n 0, 1) := by decide +kernel
theorem dX2_countLastArrow_31 : decode cX2_countLastArrow 31 = .ok (.getfield 59, 3) := by decide +kernel
theorem dX2_countLastArrow_34 : decode cX2_countLastArrow 34 = .ok (.dcmp .l, 1) := by decide +kernel
theorem dX2_countLastArrow_35 : decode cX2_countLastArrow 35 = .ok (.ifCond .ne 5, 3) := by decide +kernel
theorem dX2_countLastArrow_38 : decode cX2_countLastArrow 38 = .ok (.iconst (-1), 1) := by decide +kernel
theorem dX2_countLastArrow_39 : decode cX2_countLastArrow 39 = .ok (.ireturn, 1) := by decide +kernel
theorem dX2_countLastArrow_40 : decode cX2_countLastArrow 40 = .ok (.aload_n 0, 1) := by decide +kernel
theorem dX2_countLastArrow_41 : decode cX2_countLastArrow 41 = .ok (.getfield 59, 3) := by decide +kernel
theorem dX2_countLastArrow_44 : decode cX2_countLastArrow 44 = .ok (.dload_n 1, 1) := by decide +kernel
theorem dX2_countLastArrow_45 : decode cX2_countLastArrow 45 = .ok (.dcmp .g, 1) := by decide +kernel
theorem dX2_countLastArrow_46 : decode cX2_countLastArrow 46 = .ok (.ifCond .ge 10, 3) := by decide +kernel
theorem dX2_countLastArrow_49 : decode cX2_countLastArrow 49 = .ok (.aload_n 0, 1) := by decide +kernel
theorem dX2_countLastArrow_50 : decode cX2_countLastArrow 50 = .ok (.getfield 15, 3) := by decide +kernel
theorem dX2_countLastArrow_53 : decode cX2_countLastArrow 53 = .ok (.goto 7, 3) := by decide +kernel
theorem dX2_countLastArrow_56 : decode cX2_countLastArrow 56 = .ok (.aload_n 0, 1) := by decide +kernel
theorem dX2_countLastArrow_57 : decode cX2_countLastArrow 57 = .ok (.getfield 19, 3) := by decide +kernel
theorem dX2_countLastArrow_60 : decode cX2_countLastArrow 60 = .ok (.ireturn, 1) := by decide +kernel
theorem dX3_init_0 : decode cX3_init 0 = .ok (.aload_n 0, 1) := by decide +kernel
theorem dX3_init_1 : decode cX3_init 1 = .ok (.invokespecial 3, 3) := by decide +kernel
theorem dX3_init_4 : decode cX3_init 4 = .ok (.aload_n 0, 1) := by decide +kernel
theorem dX3_init_5 : decode cX3_init 5 = .ok (.bipush 12, 2) := by decide +kernel
theorem dX3_init_7 : decode cX3_init 7 = .ok (.newarray .int, 2) := by decide +kernel
theorem dX3_init_9 : decode cX3_init 9 = .ok (.putfield 9, 3) := by decide +kernel
theorem dX3_init_12 : decode cX3_init 12 = .ok (.aload_n 0, 1) := by decide +kernel
theorem dX3_init_13 : decode cX3_init 13 = .ok (.bipush 12, 2) := by decide +kernel
theorem dX3_init_15 : decode cX3_init 15 = .ok (.newarray .double, 2) := by decide +kernel
theorem dX3_init_17 : decode cX3_init 17 = .ok (.putfield 15, 3) := by decide +kernel
theorem dX3_init_20 : decode cX3_init 20 = .ok (.aload_n 0, 1) := by decide +kernel
theorem dX3_init_21 : decode cX3_init 21 = .ok (.bipush 12, 2) := by decide +kernel
theorem dX3_init_23 : decode cX3_init 23 = .ok (.newarray .double, 2) := by decide +kernel
theorem dX3_init_25 : decode cX3_init 25 = .ok (.putfield 19, 3) := by decide +kernel
theorem dX3_init_28 : decode cX3_init 28 = .ok (.return_, 1) := by decide +kernel
theorem dX3_setOf_0 : decode cX3_setOf 0 = .ok (.iconst 0, 1) := by decide +kernel
theorem dX3_setOf_1 : decode cX3_setOf 1 = .ok (.istore_n 2, 1) := by decide +kernel
theorem dX3_setOf_2 : decode cX3_setOf 2 = .ok (.iconst 0, 1) := by decide +kernel
theorem dX3_setOf_3 : decode cX3_setOf 3 = .ok (.istore_n 3, 1) := by decide +kernel
theorem dX3_setOf_4 : decode cX3_setOf 4 = .ok (.iload_n 3, 1) := by decide +kernel
theorem dX3_setOf_5 : decode cX3_setOf 5 = .ok (.bipush 12, 2) := by decide +kernel
theorem dX3_setOf_7 : decode cX3_setOf 7 = .ok (.if_icmp .ge 25, 3) := by decide +kernel
theorem dX3_setOf_10 : decode cX3_setOf 10 = .ok (.aload_n 0, 1) := by decide +kernel
theorem dX3_setOf_11 : decode cX3_setOf 11 = .ok (.getfield 9, 3) := by decide +kernel
theorem dX3_setOf_14 : decode cX3_setOf 14 = .ok (.iload_n 3, 1) := by decide +kernel
theorem dX3_setOf_15 : decode cX3_setOf 15 = .ok (.iaload, 1) := by decide +kernel
theorem dX3_setOf_16 : decode cX3_setOf 16 = .ok (.iload_n 1, 1) := by decide +kernel
theorem dX3_setOf_17 : decode cX3_setOf 17 = .ok (.if_icmp .ne 9, 3) := by decide +kernel
theorem dX3_setOf_20 : decode cX3_setOf 20 = .ok (.iload_n 2, 1) := by decide +kernel
theorem dX3_setOf_21 : decode cX3_setOf 21 = .ok (.iconst 1, 1) := by decide +kernel
theorem dX3_setOf_22 : decode cX3_setOf 22 = .ok (.iload_n 3, 1) := by decide +kernel
theorem dX3_setOf_23 : decode cX3_setOf 23 = .ok (.ishl, 1) := by decide +kernel
theorem dX3_setOf_24 : decode cX3_setOf 24 = .ok (.ior, 1) := by decide +kernel
theorem dX3_setOf_25 : decode cX3_setOf 25 = .ok (.istore_n 2, 1) := by decide +kernel
theorem dX3_setOf_26 : decode cX3_setOf 26 = .ok (.iinc 3 1, 3) := by decide +kernel
theorem dX3_setOf_29 : decode cX3_setOf 29 = .ok (.goto (-25), 3) := by decide +kernel
theorem dX3_setOf_32 : decode cX3_setOf 32 = .ok (.iload_n 2, 1) := by decide +kernel
theorem dX3_setOf_33 : decode cX3_setOf 33 = .ok (.ireturn, 1) := by decide +kernel
theorem dX3_bringBack_0 : decode cX3_bringBack 0 = .ok (.iconst 0, 1) := by decide +kernel
theorem dX3_bringBack_1 : decode cX3_bringBack 1 = .ok (.istore_n 2, 1) := by decide +kernel
theorem dX3_bringBack_2 : decode cX3_bringBack 2 = .ok (.iconst 0, 1) := by decide +kernel
theorem dX3_bringBack_3 : decode cX3_bringBack 3 = .ok (.istore_n 3, 1) := by decide +kernel
theorem dX3_bringBack_4 : decode cX3_bringBack 4 = .ok (.iload_n 3, 1) := by decide +kernel
theorem dX3_bringBack_5 : decode cX3_bringBack 5 = .ok (.bipush 12, 2) := by decide +kernel
theorem dX3_bringBack_7 : decode cX3_bringBack 7 = .ok (.if_icmp .ge 29, 3) := by decide +kernel
theorem dX3_bringBack_10 : decode cX3_bringBack 10 = .ok (.aload_n 0, 1) := by decide +kernel
theorem dX3_bringBack_11 : decode cX3_bringBack 11 = .ok (.getfield 9, 3) := by decide +kernel
theorem dX3_bringBack_14 : decode cX3_bringBack 14 = .ok (.iload_n 3, 1) := by decide +kernel
theorem dX3_bringBack_15 : decode cX3_bringBack 15 = .ok (.iaload, 1) := by decide +kernel
theorem dX3_bringBack_16 : decode cX3_bringBack 16 = .ok (.iload_n 1, 1) := by decide +kernel
theorem dX3_bringBack_17 : decode cX3_bringBack 17 = .ok (.if_icmp .ne 13, 3) := by decide +kernel
theorem dX3_bringBack_20 : decode cX3_bringBack 20 = .ok (.aload_n 0, 1) := by decide +kernel
theorem dX3_bringBack_21 : decode cX3_bringBack 21 = .ok (.getfield 9, 3) := by decide +kernel
theorem dX3_bringBack_24 : decode cX3_bringBack 24 = .ok (.iload_n 3, 1) := by decide +kernel
theorem dX3_bringBack_25 : decode cX3_bringBack 25 = .ok (.iconst 0, 1) := by decide +kernel
theorem dX3_bringBack_26 : decode cX3_bringBack 26 = .ok (.iastore, 1) := by decide +kernel
theorem dX3_bringBack_27 : decode cX3_bringBack 27 = .ok (.iinc 2 1, 3) := by decide +kernel
theorem dX3_bringBack_30 : decode cX3_bringBack 30 = .ok (.iinc 3 1, 3) := by decide +kernel
theorem dX3_bringBack_33 : decode cX3_bringBack 33 = .ok (.goto (-29), 3) := by decide +kernel
theorem dX3_bringBack_36 : decode cX3_bringBack 36 = .ok (.iload_n 2, 1) := by decide +kernel
theorem dX3_bringBack_37 : decode cX3_bringBack 37 = .ok (.ireturn, 1) := by decide +kernel
set_option maxRecDepth 20000 in
theorem ggX3_firstHitBy_X4_size : GoodIn wsX3_firstHitBy wsX4_size := goodIn_r _ [9] (by decide +kernel) (by decide +kernel)
set_option maxRecDepth 20000 in
theorem gX3_firstHitBy_X4_size_n27 : GoodIn wsX3_firstHitBy (wsX4_size) := ggX3_firstHitBy_X4_size
theorem dX3_firstHitBy_0 : decode cX3_firstHitBy 0 = .ok (.iconst 0, 1) := by decide +kernel
theorem dX3_firstHitBy_1 : decode cX3_firstHitBy 1 = .ok (.istore_n 2, 1) := by decide +kernel
theorem dX3_firstHitBy_2 : decode cX3_firstHitBy 2 = .ok (.iload_n 2, 1) := by decide +kernel
theorem dX3_firstHitBy_3 : decode cX3_firstHitBy 3 = .ok (.bipush 12, 2) := by decide +kernel
theorem dX3_firstHitBy_5 : decode cX3_firstHitBy 5 = .ok (.if_icmp .ge 63, 3) := by decide +kernel
theorem dX3_firstHitBy_8 : decode cX3_firstHitBy 8 = .ok (.aload_n 0, 1) := by decide +kernel
theorem dX3_firstHitBy_9 : decode cX3_firstHitBy 9 = .ok (.getfield 9, 3) := by decide +kernel
theorem dX3_firstHitBy_12 : decode cX3_firstHitBy 12 = .ok (.iload_n 2, 1) := by decide +kernel
theorem dX3_firstHitBy_13 : decode cX3_firstHitBy 13 = .ok (.iaload, 1) := by decide +kernel
theorem dX3_firstHitBy_14 : decode cX3_firstHitBy 14 = .ok (.iconst 1, 1) := by decide +kernel
theorem dX3_firstHitBy_15 : decode cX3_firstHitBy 15 = .ok (.if_icmp .ne 47, 3) := by decide +kernel
theorem dX3_firstHitBy_18 : decode cX3_firstHitBy 18 = .ok (.aload_n 1, 1) := by decide +kernel
theorem dX3_firstHitBy_19 : decode cX3_firstHitBy 19 = .ok (.getfield 22, 3) := by decide +kernel
theorem dX3_firstHitBy_22 : decode cX3_firstHitBy 22 = .ok (.aload_n 0, 1) := by decide +kernel
theorem dX3_firstHitBy_23 : decode cX3_firstHitBy 23 = .ok (.getfield 15, 3) := by decide +kernel
theorem dX3_firstHitBy_26 : decode cX3_firstHitBy 26 = .ok (.iload_n 2, 1) := by decide +kernel
theorem dX3_firstHitBy_27 : decode cX3_firstHitBy 27 = .ok (.daload, 1) := by decide +kernel
theorem dX3_firstHitBy_28 : decode cX3_firstHitBy 28 = .ok (.dsub, 1) := by decide +kernel
theorem dX3_firstHitBy_29 : decode cX3_firstHitBy 29 = .ok (.invokestatic 27, 3) := by decide +kernel
theorem dX3_firstHitBy_32 : decode cX3_firstHitBy 32 = .ok (.ldc2_w 31, 3) := by decide +kernel
theorem dX3_firstHitBy_35 : decode cX3_firstHitBy 35 = .ok (.dcmp .g, 1) := by decide +kernel
theorem dX3_firstHitBy_36 : decode cX3_firstHitBy 36 = .ok (.ifCond .ge 26, 3) := by decide +kernel
theorem dX3_firstHitBy_39 : decode cX3_firstHitBy 39 = .ok (.aload_n 1, 1) := by decide +kernel
theorem dX3_firstHitBy_40 : decode cX3_firstHitBy 40 = .ok (.getfield 33, 3) := by decide +kernel
theorem dX3_firstHitBy_43 : decode cX3_firstHitBy 43 = .ok (.aload_n 0, 1) := by decide +kernel
theorem dX3_firstHitBy_44 : decode cX3_firstHitBy 44 = .ok (.getfield 19, 3) := by decide +kernel
theorem dX3_firstHitBy_47 : decode cX3_firstHitBy 47 = .ok (.iload_n 2, 1) := by decide +kernel
theorem dX3_firstHitBy_48 : decode cX3_firstHitBy 48 = .ok (.daload, 1) := by decide +kernel
theorem dX3_firstHitBy_49 : decode cX3_firstHitBy 49 = .ok (.dsub, 1) := by decide +kernel
theorem dX3_firstHitBy_50 : decode cX3_firstHitBy 50 = .ok (.invokestatic 27, 3) := by decide +kernel
theorem dX3_firstHitBy_53 : decode cX3_firstHitBy 53 = .ok (.ldc2_w 31, 3) := by decide +kernel
theorem dX3_firstHitBy_56 : decode cX3_firstHitBy 56 = .ok (.dcmp .g, 1) := by decide +kernel
theorem dX3_firstHitBy_57 : decode cX3_firstHitBy 57 = .ok (.ifCond .ge 5, 3) := by decide +kernel
theorem dX3_firstHitBy_60 : decode cX3_firstHitBy 60 = .ok (.iload_n 2, 1) := by decide +kernel
theorem dX3_firstHitBy_61 : decode cX3_firstHitBy 61 = .ok (.ireturn, 1) := by decide +kernel
theorem dX3_firstHitBy_62 : decode cX3_firstHitBy 62 = .ok (.iinc 2 1, 3) := by decide +kernel
theorem dX3_firstHitBy_65 : decode cX3_firstHitBy 65 = .ok (.goto (-63), 3) := by decide +kernel
theorem dX3_firstHitBy_68 : decode cX3_firstHitBy 68 = .ok (.iconst (-1), 1) := by decide +kernel
theorem dX3_firstHitBy_69 : decode cX3_firstHitBy 69 = .ok (.ireturn, 1) := by decide +kernel
theorem dX3_land_0 : decode cX3_land 0 = .ok (.aload_n 0, 1) := by decide +kernel
theorem dX3_land_1 : decode cX3_land 1 = .ok (.getfield 15, 3) := by decide +kernel
theorem dX3_land_4 : decode cX3_land 4 = .ok (.iload_n 1, 1) := by decide +kernel
theorem dX3_land_5 : decode cX3_land 5 = .ok (.aload_n 2, 1) := by decide +kernel
theorem dX3_land_6 : decode cX3_land 6 = .ok (.getfield 22, 3) := by decide +kernel
theorem dX3_land_9 : decode cX3_land 9 = .ok (.dastore, 1) := by decide +kernel
theorem dX3_land_10 : decode cX3_land 10 = .ok (.aload_n 0, 1) := by decide +kernel
theorem dX3_land_11 : decode cX3_land 11 = .ok (.getfield 19, 3) := by decide +kernel
theorem dX3_land_14 : decode cX3_land 14 = .ok (.iload_n 1, 1) := by decide +kernel
theorem dX3_land_15 : decode cX3_land 15 = .ok (.aload_n 2, 1) := by decide +kernel
theorem dX3_land_16 : decode cX3_land 16 = .ok (.getfield 33, 3) := by decide +kernel
theorem dX3_land_19 : decode cX3_land 19 = .ok (.dastore, 1) := by decide +kernel
theorem dX3_land_20 : decode cX3_land 20 = .ok (.aload_n 0, 1) := by decide +kernel
theorem dX3_land_21 : decode cX3_land 21 = .ok (.getfield 9, 3) := by decide +kernel
theorem dX3_land_24 : decode cX3_land 24 = .ok (.iload_n 1, 1) := by decide +kernel
theorem dX3_land_25 : decode cX3_land 25 = .ok (.iload_n 3, 1) := by decide +kernel
theorem dX3_land_26 : decode cX3_land 26 = .ok (.ifCond .ne 7, 3) := by decide +kernel
theorem dX3_land_29 : decode cX3_land 29 = .ok (.iconst 2, 1) := by decide +kernel
theorem dX3_land_30 : decode cX3_land 30 = .ok (.goto 4, 3) := by decide +kernel
theorem dX3_land_33 : decode cX3_land 33 = .ok (.iconst 1, 1) := by decide +kernel
theorem dX3_land_34 : decode cX3_land 34 = .ok (.iastore, 1) := by decide +kernel
theorem dX3_land_35 : decode cX3_land 35 = .ok (.return_, 1) := by decide +kernel
set_option maxRecDepth 20000 in
theorem ggX4_init_X2_init : GoodIn wsX4_init wsX2_init := goodIn_r _ [24, 25, 2, 3] (by decide +kernel) (by decide +kernel)
set_option maxRecDepth 20000 in
theorem gX4_init_X2_init_n30 : GoodIn wsX4_init (wsX2_init) := ggX4_init_X2_init
set_option maxRecDepth 20000 in
theorem ggX4_init_X1_init : GoodIn wsX4_init wsX1_init := goodIn_r _ [27, 28, 2, 3] (by decide +kernel) (by decide +kernel)
set_option maxRecDepth 20000 in
theorem gX4_init_X1_init_n40 : GoodIn wsX4_init (wsX1_init) := ggX4_init_X1_init
set_option maxRecDepth 20000 in
theorem ggX4_init_X0_init : GoodIn wsX4_init wsX0_init := goodIn_r _ [30, 31, 2, 3, 32, 69, 70, 71, 72, 73, 74, 75, 76, 77, 78, 79, 80] (by decide +kernel) (by decide +kernel)
set_option maxRecDepth 20000 in
theorem gX4_init_X0_init_n45 : GoodIn wsX4_init (wsX0_init) := ggX4_init_X0_init
set_option maxRecDepth 20000 in
theorem ggX4_init_X3_init : GoodIn wsX4_init wsX3_init := goodIn_r _ [34, 35, 2, 3, 36, 37, 38, 39, 40, 81, 82, 83, 84, 85] (by decide +kernel) (by decide +kernel)
set_option maxRecDepth 20000 in
theorem gX4_init_X3_init_n46 : GoodIn wsX4_init (wsX3_init) := ggX4_init_X3_init
theorem dX4_init_0 : decode cX4_init 0 = .ok (.aload_n 0, 1) := by decide +kernel
theorem dX4_init_1 : decode cX4_init 1 = .ok (.invokespecial 1, 3) := by decide +kernel
theorem dX4_init_4 : decode cX4_init 4 = .ok (.aload_n 0, 1) := by decide +kernel
theorem dX4_init_5 : decode cX4_init 5 = .ok (.bipush 6, 2) := by decide +kernel
theorem dX4_init_7 : decode cX4_init 7 = .ok (.anewarray 9, 3) := by decide +kernel
theorem dX4_init_10 : decode cX4_init 10 = .ok (.putfield 11, 3) := by decide +kernel
theorem dX4_init_13 : decode cX4_init 13 = .ok (.aload_n 0, 1) := by decide +kernel
theorem dX4_init_14 : decode cX4_init 14 = .ok (.bipush 6, 2) := by decide +kernel
theorem dX4_init_16 : decode cX4_init 16 = .ok (.anewarray 15, 3) := by decide +kernel
theorem dX4_init_19 : decode cX4_init 19 = .ok (.putfield 17, 3) := by decide +kernel
theorem dX4_init_22 : decode cX4_init 22 = .ok (.aload_n 0, 1) := by decide +kernel
theorem dX4_init_23 : decode cX4_init 23 = .ok (.bipush 18, 2) := by decide +kernel
theorem dX4_init_25 : decode cX4_init 25 = .ok (.putfield 21, 3) := by decide +kernel
theorem dX4_init_28 : decode cX4_init 28 = .ok (.aload_n 0, 1) := by decide +kernel
theorem dX4_init_29 : decode cX4_init 29 = .ok (.iconst 4, 1) := by decide +kernel
theorem dX4_init_30 : decode cX4_init 30 = .ok (.putfield 25, 3) := by decide +kernel
theorem dX4_init_33 : decode cX4_init 33 = .ok (.aload_n 0, 1) := by decide +kernel
theorem dX4_init_34 : decode cX4_init 34 = .ok (.new 28, 3) := by decide +kernel
theorem dX4_init_37 : decode cX4_init 37 = .ok (.dup, 1) := by decide +kernel
theorem dX4_init_38 : decode cX4_init 38 = .ok (.invokespecial 30, 3) := by decide +kernel
theorem dX4_init_41 : decode cX4_init 41 = .ok (.putfield 31, 3) := by decide +kernel
theorem dX4_init_44 : decode cX4_init 44 = .ok (.aload_n 0, 1) := by decide +kernel
theorem dX4_init_45 : decode cX4_init 45 = .ok (.iconst (-1), 1) := by decide +kernel
theorem dX4_init_46 : decode cX4_init 46 = .ok (.putfield 35, 3) := by decide +kernel
theorem dX4_init_49 : decode cX4_init 49 = .ok (.aload_n 0, 1) := by decide +kernel
theorem dX4_init_50 : decode cX4_init 50 = .ok (.new 38, 3) := by decide +kernel
theorem dX4_init_53 : decode cX4_init 53 = .ok (.dup, 1) := by decide +kernel
theorem dX4_init_54 : decode cX4_init 54 = .ok (.invokespecial 40, 3) := by decide +kernel
theorem dX4_init_57 : decode cX4_init 57 = .ok (.putfield 41, 3) := by decide +kernel
theorem dX4_init_60 : decode cX4_init 60 = .ok (.iconst 0, 1) := by decide +kernel
theorem dX4_init_61 : decode cX4_init 61 = .ok (.istore_n 1, 1) := by decide +kernel
theorem dX4_init_62 : decode cX4_init 62 = .ok (.iload_n 1, 1) := by decide +kernel
theorem dX4_init_63 : decode cX4_init 63 = .ok (.bipush 6, 2) := by decide +kernel
theorem dX4_init_65 : decode cX4_init 65 = .ok (.if_icmp .ge 22, 3) := by decide +kernel
theorem dX4_init_68 : decode cX4_init 68 = .ok (.aload_n 0, 1) := by decide +kernel
theorem dX4_init_69 : decode cX4_init 69 = .ok (.getfield 11, 3) := by decide +kernel
theorem dX4_init_72 : decode cX4_init 72 = .ok (.iload_n 1, 1) := by decide +kernel
theorem dX4_init_73 : decode cX4_init 73 = .ok (.new 9, 3) := by decide +kernel
theorem dX4_init_76 : decode cX4_init 76 = .ok (.dup, 1) := by decide +kernel
theorem dX4_init_77 : decode cX4_init 77 = .ok (.invokespecial 45, 3) := by decide +kernel
theorem dX4_init_80 : decode cX4_init 80 = .ok (.aastore, 1) := by decide +kernel
theorem dX4_init_81 : decode cX4_init 81 = .ok (.iinc 1 1, 3) := by decide +kernel
theorem dX4_init_84 : decode cX4_init 84 = .ok (.goto (-22), 3) := by decide +kernel
theorem dX4_init_87 : decode cX4_init 87 = .ok (.iconst 0, 1) := by decide +kernel
theorem dX4_init_88 : decode cX4_init 88 = .ok (.istore_n 1, 1) := by decide +kernel
theorem dX4_init_89 : decode cX4_init 89 = .ok (.iload_n 1, 1) := by decide +kernel
theorem dX4_init_90 : decode cX4_init 90 = .ok (.bipush 6, 2) := by decide +kernel
theorem dX4_init_92 : decode cX4_init 92 = .ok (.if_icmp .ge 22, 3) := by decide +kernel
theorem dX4_init_95 : decode cX4_init 95 = .ok (.aload_n 0, 1) := by decide +kernel
theorem dX4_init_96 : decode cX4_init 96 = .ok (.getfield 17, 3) := by decide +kernel
theorem dX4_init_99 : decode cX4_init 99 = .ok (.iload_n 1, 1) := by decide +kernel
theorem dX4_init_100 : decode cX4_init 100 = .ok (.new 15, 3) := by decide +kernel
theorem dX4_init_103 : decode cX4_init 103 = .ok (.dup, 1) := by decide +kernel
theorem dX4_init_104 : decode cX4_init 104 = .ok (.invokespecial 46, 3) := by decide +kernel
theorem dX4_init_107 : decode cX4_init 107 = .ok (.aastore, 1) := by decide +kernel
theorem dX4_init_108 : decode cX4_init 108 = .ok (.iinc 1 1, 3) := by decide +kernel
theorem dX4_init_111 : decode cX4_init 111 = .ok (.goto (-22), 3) := by decide +kernel
theorem dX4_init_114 : decode cX4_init 114 = .ok (.return_, 1) := by decide +kernel
set_option maxRecDepth 20000 in
theorem ggX4_archer_X4_needBetween : GoodIn wsX4_archer wsX4_needBetween := goodIn_ca (goodIn_r _ [10, 11, 12] (by decide +kernel) (by decide +kernel)) (goodIn_sub (fun _ h => List.mem_cons_of_mem _ (List.mem_append_right _ h)) (by decide +kernel))
set_option maxRecDepth 20000 in
theorem gX4_archer_X4_needBetween : GoodIn wsX4_archer (va_wsS RX4 47 yX4_needBetween wsX4_needBetween) := goodIn_app (goodIn_of _ (by decide +kernel)) ggX4_archer_X4_needBetween
theorem dX4_archer_0 : decode cX4_archer 0 = .ok (.iload_n 1, 1) := by decide +kernel
theorem dX4_archer_1 : decode cX4_archer 1 = .ok (.bipush 20, 2) := by decide +kernel
theorem dX4_archer_3 : decode cX4_archer 3 = .ok (.bipush 60, 2) := by decide +kernel
theorem dX4_archer_5 : decode cX4_archer 5 = .ok (.invokestatic 47, 3) := by decide +kernel
theorem dX4_archer_8 : decode cX4_archer 8 = .ok (.iload_n 2, 1) := by decide +kernel
theorem dX4_archer_9 : decode cX4_archer 9 = .ok (.iconst 0, 1) := by decide +kernel
theorem dX4_archer_10 : decode cX4_archer 10 = .ok (.bipush 9, 2) := by decide +kernel
theorem dX4_archer_12 : decode cX4_archer 12 = .ok (.invokestatic 47, 3) := by decide +kernel
theorem dX4_archer_15 : decode cX4_archer 15 = .ok (.aload_n 0, 1) := by decide +kernel
theorem dX4_archer_16 : decode cX4_archer 16 = .ok (.getfield 51, 3) := by decide +kernel
theorem dX4_archer_19 : decode cX4_archer 19 = .ok (.bipush 6, 2) := by decide +kernel
theorem dX4_archer_21 : decode cX4_archer 21 = .ok (.if_icmp .lt 13, 3) := by decide +kernel
theorem dX4_archer_24 : decode cX4_archer 24 = .ok (.new 54, 3) := by decide +kernel
theorem dX4_archer_27 : decode cX4_archer 27 = .ok (.dup, 1) := by decide +kernel
theorem dX4_archer_28 : decode cX4_archer 28 = .ok (.ldc 56, 2) := by decide +kernel
theorem dX4_archer_30 : decode cX4_archer 30 = .ok (.invokespecial 58, 3) := by decide +kernel
theorem dX4_archer_33 : decode cX4_archer 33 = .ok (.athrow, 1) := by decide +kernel
theorem dX4_archer_34 : decode cX4_archer 34 = .ok (.aload_n 0, 1) := by decide +kernel
theorem dX4_archer_35 : decode cX4_archer 35 = .ok (.getfield 11, 3) := by decide +kernel
theorem dX4_archer_38 : decode cX4_archer 38 = .ok (.aload_n 0, 1) := by decide +kernel
theorem dX4_archer_39 : decode cX4_archer 39 = .ok (.getfield 51, 3) := by decide +kernel
theorem dX4_archer_42 : decode cX4_archer 42 = .ok (.aaload, 1) := by decide +kernel
theorem dX4_archer_43 : decode cX4_archer 43 = .ok (.iload_n 1, 1) := by decide +kernel
theorem dX4_archer_44 : decode cX4_archer 44 = .ok (.putfield 61, 3) := by decide +kernel
theorem dX4_archer_47 : decode cX4_archer 47 = .ok (.aload_n 0, 1) := by decide +kernel
theorem dX4_archer_48 : decode cX4_archer 48 = .ok (.getfield 11, 3) := by decide +kernel
theorem dX4_archer_51 : decode cX4_archer 51 = .ok (.aload_n 0, 1) := by decide +kernel
theorem dX4_archer_52 : decode cX4_archer 52 = .ok (.getfield 51, 3) := by decide +kernel
theorem dX4_archer_55 : decode cX4_archer 55 = .ok (.aaload, 1) := by decide +kernel
theorem dX4_archer_56 : decode cX4_archer 56 = .ok (.iload_n 2, 1) := by decide +kernel
theorem dX4_archer_57 : decode cX4_archer 57 = .ok (.putfield 64, 3) := by decide +kernel
theorem dX4_archer_60 : decode cX4_archer 60 = .ok (.aload_n 0, 1) := by decide +kernel
theorem dX4_archer_61 : decode cX4_archer 61 = .ok (.dup, 1) := by decide +kernel
theorem dX4_archer_62 : decode cX4_archer 62 = .ok (.getfield 51, 3) := by decide +kernel
theorem dX4_archer_65 : decode cX4_archer 65 = .ok (.iconst 1, 1) := by decide +kernel
theorem dX4_archer_66 : decode cX4_archer 66 = .ok (.iadd, 1) := by decide +kernel
theorem dX4_archer_67 : decode cX4_archer 67 = .ok (.putfield 51, 3) := by decide +kernel
theorem dX4_archer_70 : decode cX4_archer 70 = .ok (.aload_n 0, 1) := by decide +kernel
theorem dX4_archer_71 : decode cX4_archer 71 = .ok (.getfield 51, 3) := by decide +kernel
theorem dX4_archer_74 : decode cX4_archer 74 = .ok (.iconst 1, 1) := by decide +kernel
theorem dX4_archer_75 : decode cX4_archer 75 = .ok (.isub, 1) := by decide +kernel
theorem dX4_archer_76 : decode cX4_archer 76 = .ok (.ireturn, 1) := by decide +kernel
set_option maxRecDepth 20000 in
theorem ggX4_quiver_X4_needBetween : GoodIn wsX4_quiver wsX4_needBetween := goodIn_ca (goodIn_r _ [10, 11, 12] (by decide +kernel) (by decide +kernel)) (goodIn_sub (fun _ h => List.mem_cons_of_mem _ (List.mem_append_right _ h)) (by decide +kernel))
set_option maxRecDepth 20000 in
theorem gX4_quiver_X4_needBetween : GoodIn wsX4_quiver (va_wsS RX4 47 yX4_needBetween wsX4_needBetween) := goodIn_app (goodIn_of _ (by decide +kernel)) ggX4_quiver_X4_needBetween
theorem dX4_quiver_0 : decode cX4_quiver 0 = .ok (.iload_n 1, 1) := by decide +kernel
theorem dX4_quiver_1 : decode cX4_quiver 1 = .ok (.sipush 200, 3) := by decide +kernel
theorem dX4_quiver_4 : decode cX4_quiver 4 = .ok (.sipush 600, 3) := by decide +kernel
theorem dX4_quiver_7 : decode cX4_quiver 7 = .ok (.invokestatic 47, 3) := by decide +kernel
theorem dX4_quiver_10 : decode cX4_quiver 10 = .ok (.iload_n 2, 1) := by decide +kernel
theorem dX4_quiver_11 : decode cX4_quiver 11 = .ok (.sipush 300, 3) := by decide +kernel
theorem dX4_quiver_14 : decode cX4_quiver 14 = .ok (.sipush 1100, 3) := by decide +kernel
theorem dX4_quiver_17 : decode cX4_quiver 17 = .ok (.invokestatic 47, 3) := by decide +kernel
theorem dX4_quiver_20 : decode cX4_quiver 20 = .ok (.aload_n 0, 1) := by decide +kernel
theorem dX4_quiver_21 : decode cX4_quiver 21 = .ok (.getfield 67, 3) := by decide +kernel
theorem dX4_quiver_24 : decode cX4_quiver 24 = .ok (.bipush 6, 2) := by decide +kernel
theorem dX4_quiver_26 : decode cX4_quiver 26 = .ok (.if_icmp .lt 13, 3) := by decide +kernel
theorem dX4_quiver_29 : decode cX4_quiver 29 = .ok (.new 54, 3) := by decide +kernel
theorem dX4_quiver_32 : decode cX4_quiver 32 = .ok (.dup, 1) := by decide +kernel
theorem dX4_quiver_33 : decode cX4_quiver 33 = .ok (.ldc 70, 2) := by decide +kernel
theorem dX4_quiver_35 : decode cX4_quiver 35 = .ok (.invokespecial 58, 3) := by decide +kernel
theorem dX4_quiver_38 : decode cX4_quiver 38 = .ok (.athrow, 1) := by decide +kernel
theorem dX4_quiver_39 : decode cX4_quiver 39 = .ok (.aload_n 0, 1) := by decide +kernel
theorem dX4_quiver_40 : decode cX4_quiver 40 = .ok (.getfield 17, 3) := by decide +kernel
theorem dX4_quiver_43 : decode cX4_quiver 43 = .ok (.aload_n 0, 1) := by decide +kernel
theorem dX4_quiver_44 : decode cX4_quiver 44 = .ok (.getfield 67, 3) := by decide +kernel
theorem dX4_quiver_47 : decode cX4_quiver 47 = .ok (.aaload, 1) := by decide +kernel
theorem dX4_quiver_48 : decode cX4_quiver 48 = .ok (.iload_n 1, 1) := by decide +kernel
theorem dX4_quiver_49 : decode cX4_quiver 49 = .ok (.putfield 72, 3) := by decide +kernel
theorem dX4_quiver_52 : decode cX4_quiver 52 = .ok (.aload_n 0, 1) := by decide +kernel
theorem dX4_quiver_53 : decode cX4_quiver 53 = .ok (.getfield 17, 3) := by decide +kernel
theorem dX4_quiver_56 : decode cX4_quiver 56 = .ok (.aload_n 0, 1) := by decide +kernel
theorem dX4_quiver_57 : decode cX4_quiver 57 = .ok (.getfield 67, 3) := by decide +kernel
theorem dX4_quiver_60 : decode cX4_quiver 60 = .ok (.aaload, 1) := by decide +kernel
theorem dX4_quiver_61 : decode cX4_quiver 61 = .ok (.iload_n 2, 1) := by decide +kernel
theorem dX4_quiver_62 : decode cX4_quiver 62 = .ok (.putfield 75, 3) := by decide +kernel
theorem dX4_quiver_65 : decode cX4_quiver 65 = .ok (.aload_n 0, 1) := by decide +kernel
theorem dX4_quiver_66 : decode cX4_quiver 66 = .ok (.dup, 1) := by decide +kernel
theorem dX4_quiver_67 : decode cX4_quiver 67 = .ok (.getfield 67, 3) := by decide +kernel
theorem dX4_quiver_70 : decode cX4_quiver 70 = .ok (.iconst 1, 1) := by decide +kernel
theorem dX4_quiver_71 : decode cX4_quiver 71 = .ok (.iadd, 1) := by decide +kernel
theorem dX4_quiver_72 : decode cX4_quiver 72 = .ok (.putfield 67, 3) := by decide +kernel
theorem dX4_quiver_75 : decode cX4_quiver 75 = .ok (.aload_n 0, 1) := by decide +kernel
theorem dX4_quiver_76 : decode cX4_quiver 76 = .ok (.getfield 67, 3) := by decide +kernel
theorem dX4_quiver_79 : decode cX4_quiver 79 = .ok (.iconst 1, 1) := by decide +kernel
theorem dX4_quiver_80 : decode cX4_quiver 80 = .ok (.isub, 1) := by decide +kernel
theorem dX4_quiver_81 : decode cX4_quiver 81 = .ok (.ireturn, 1) := by decide +kernel
set_option maxRecDepth 20000 in
theorem ggX4_give_X4_archerNumbered : GoodIn wsX4_give wsX4_archerNumbered := goodIn_ca (goodIn_r _ [11, 12, 13, 14, 5, 24, 25, 26, 27, 28, 29, 30, 31, 32, 33, 34, 35, 36, 37, 38, 39] (by decide +kernel) (by decide +kernel)) (goodIn_sub (fun _ h => List.mem_cons_of_mem _ (List.mem_append_right _ h)) (by decide +kernel))
set_option maxRecDepth 20000 in
theorem gX4_give_X4_archerNumbered : GoodIn wsX4_give (wsV RX4 78 RX4 yX4_archerNumbered wsX4_archerNumbered) := goodIn_app (goodIn_of _ (by decide +kernel)) ggX4_give_X4_archerNumbered
set_option maxRecDepth 20000 in
theorem ggX4_give_X4_needQuiver : GoodIn wsX4_give wsX4_needQuiver := goodIn_ca (goodIn_r _ [18, 12, 13, 19, 24, 25, 26, 27, 28, 29, 30, 31, 32, 33, 34, 35, 36, 37, 38, 39] (by decide +kernel) (by decide +kernel)) (goodIn_sub (fun _ h => List.mem_cons_of_mem _ (List.mem_append_right _ h)) (by decide +kernel))
set_option maxRecDepth 20000 in
theorem gX4_give_X4_needQuiver : GoodIn wsX4_give (wsV RX4 82 RX4 yX4_needQuiver wsX4_needQuiver) := goodIn_app (goodIn_of _ (by decide +kernel)) ggX4_give_X4_needQuiver
set_option maxRecDepth 20000 in
theorem ggX4_give_X4_holderOf : GoodIn wsX4_give wsX4_holderOf := goodIn_r _ [23, 14, 5, 6, 24, 25, 26, 27, 28, 29, 30, 31, 32, 33, 34, 35, 36, 37, 38, 39, 50, 51, 52, 53, 54, 55, 56, 57, 58, 59, 60, 61] (by decide +kernel) (by decide +kernel)
set_option maxRecDepth 20000 in
theorem gX4_give_X4_holderOf : GoodIn wsX4_give (wsV RX4 92 RX4 yX4_holderOf wsX4_holderOf) := goodIn_app (goodIn_of _ (by decide +kernel)) ggX4_give_X4_holderOf
theorem dX4_give_0 : decode cX4_give 0 = .ok (.aload_n 0, 1) := by decide +kernel
theorem dX4_give_1 : decode cX4_give 1 = .ok (.iload_n 1, 1) := by decide +kernel
theorem dX4_give_2 : decode cX4_give 2 = .ok (.invokevirtual 78, 3) := by decide +kernel
theorem dX4_give_5 : decode cX4_give 5 = .ok (.astore_n 3, 1) := by decide +kernel
theorem dX4_give_6 : decode cX4_give 6 = .ok (.aload_n 0, 1) := by decide +kernel
theorem dX4_give_7 : decode cX4_give 7 = .ok (.iload_n 2, 1) := by decide +kernel
theorem dX4_give_8 : decode cX4_give 8 = .ok (.invokevirtual 82, 3) := by decide +kernel
theorem dX4_give_11 : decode cX4_give 11 = .ok (.aload_n 0, 1) := by decide +kernel
theorem dX4_give_12 : decode cX4_give 12 = .ok (.getfield 31, 3) := by decide +kernel
theorem dX4_give_15 : decode cX4_give 15 = .ok (.getfield 86, 3) := by decide +kernel
theorem dX4_give_18 : decode cX4_give 18 = .ok (.ifCond .eq 13, 3) := by decide +kernel
theorem dX4_give_21 : decode cX4_give 21 = .ok (.new 54, 3) := by decide +kernel
theorem dX4_give_24 : decode cX4_give 24 = .ok (.dup, 1) := by decide +kernel
theorem dX4_give_25 : decode cX4_give 25 = .ok (.ldc 90, 2) := by decide +kernel
theorem dX4_give_27 : decode cX4_give 27 = .ok (.invokespecial 58, 3) := by decide +kernel
theorem dX4_give_30 : decode cX4_give 30 = .ok (.athrow, 1) := by decide +kernel
theorem dX4_give_31 : decode cX4_give 31 = .ok (.aload_n 0, 1) := by decide +kernel
theorem dX4_give_32 : decode cX4_give 32 = .ok (.iload_n 2, 1) := by decide +kernel
theorem dX4_give_33 : decode cX4_give 33 = .ok (.invokevirtual 92, 3) := by decide +kernel
theorem dX4_give_36 : decode cX4_give 36 = .ok (.istore 4, 2) := by decide +kernel
theorem dX4_give_38 : decode cX4_give 38 = .ok (.iload 4, 2) := by decide +kernel
theorem dX4_give_40 : decode cX4_give 40 = .ok (.iconst (-1), 1) := by decide +kernel
theorem dX4_give_41 : decode cX4_give 41 = .ok (.if_icmp .eq 14, 3) := by decide +kernel
theorem dX4_give_44 : decode cX4_give 44 = .ok (.aload_n 0, 1) := by decide +kernel
theorem dX4_give_45 : decode cX4_give 45 = .ok (.getfield 11, 3) := by decide +kernel
theorem dX4_give_48 : decode cX4_give 48 = .ok (.iload 4, 2) := by decide +kernel
theorem dX4_give_50 : decode cX4_give 50 = .ok (.aaload, 1) := by decide +kernel
theorem dX4_give_51 : decode cX4_give 51 = .ok (.iconst (-1), 1) := by decide +kernel
theorem dX4_give_52 : decode cX4_give 52 = .ok (.putfield 96, 3) := by decide +kernel
theorem dX4_give_55 : decode cX4_give 55 = .ok (.aload_n 3, 1) := by decide +kernel
theorem dX4_give_56 : decode cX4_give 56 = .ok (.iload_n 2, 1) := by decide +kernel
theorem dX4_give_57 : decode cX4_give 57 = .ok (.putfield 96, 3) := by decide +kernel
theorem dX4_give_60 : decode cX4_give 60 = .ok (.iload 4, 2) := by decide +kernel
theorem dX4_give_62 : decode cX4_give 62 = .ok (.ireturn, 1) := by decide +kernel
set_option maxRecDepth 20000 in
theorem ggX4_tune_X4_archerNumbered : GoodIn wsX4_tune wsX4_archerNumbered := goodIn_ca (goodIn_r _ [7, 8, 9, 10, 11, 29, 30, 31, 32, 33, 34, 35, 36, 37, 38, 39, 40, 41, 42, 43, 44] (by decide +kernel) (by decide +kernel)) (goodIn_sub (fun _ h => List.mem_cons_of_mem _ (List.mem_append_left _ (List.mem_append_right _ h))) (by decide +kernel))
set_option maxRecDepth 20000 in
theorem gX4_tune_X4_archerNumbered : GoodIn wsX4_tune (wsV RX4 78 RX4 yX4_archerNumbered wsX4_archerNumbered) := goodIn_app (goodIn_of _ (by decide +kernel)) ggX4_tune_X4_archerNumbered
set_option maxRecDepth 20000 in
theorem ggX4_tune_X4_needBetween : GoodIn wsX4_tune wsX4_needBetween := goodIn_ca (goodIn_r _ [14, 15, 16] (by decide +kernel) (by decide +kernel)) (goodIn_sub (fun _ h => List.mem_cons_of_mem _ (List.mem_append_right _ h)) (by decide +kernel))
set_option maxRecDepth 20000 in
theorem gX4_tune_X4_needBetween : GoodIn wsX4_tune (va_wsS RX4 47 yX4_needBetween wsX4_needBetween) := goodIn_app (goodIn_of _ (by decide +kernel)) ggX4_tune_X4_needBetween
theorem dX4_tune_0 : decode cX4_tune 0 = .ok (.aload_n 0, 1) := by decide +kernel
theorem dX4_tune_1 : decode cX4_tune 1 = .ok (.iload_n 1, 1) := by decide +kernel
theorem dX4_tune_2 : decode cX4_tune 2 = .ok (.invokevirtual 78, 3) := by decide +kernel
theorem dX4_tune_5 : decode cX4_tune 5 = .ok (.astore 4, 2) := by decide +kernel
theorem dX4_tune_7 : decode cX4_tune 7 = .ok (.iload_n 2, 1) := by decide +kernel
theorem dX4_tune_8 : decode cX4_tune 8 = .ok (.iconst 0, 1) := by decide +kernel
theorem dX4_tune_9 : decode cX4_tune 9 = .ok (.bipush 127, 2) := by decide +kernel
theorem dX4_tune_11 : decode cX4_tune 11 = .ok (.invokestatic 47, 3) := by decide +kernel
theorem dX4_tune_14 : decode cX4_tune 14 = .ok (.iload_n 3, 1) := by decide +kernel
theorem dX4_tune_15 : decode cX4_tune 15 = .ok (.bipush (-8), 2) := by decide +kernel
theorem dX4_tune_17 : decode cX4_tune 17 = .ok (.bipush 8, 2) := by decide +kernel
theorem dX4_tune_19 : decode cX4_tune 19 = .ok (.invokestatic 47, 3) := by decide +kernel
theorem dX4_tune_22 : decode cX4_tune 22 = .ok (.aload 4, 2) := by decide +kernel
theorem dX4_tune_24 : decode cX4_tune 24 = .ok (.getfield 99, 3) := by decide +kernel
theorem dX4_tune_27 : decode cX4_tune 27 = .ok (.istore 5, 2) := by decide +kernel
theorem dX4_tune_29 : decode cX4_tune 29 = .ok (.aload 4, 2) := by decide +kernel
theorem dX4_tune_31 : decode cX4_tune 31 = .ok (.iload_n 2, 1) := by decide +kernel
theorem dX4_tune_32 : decode cX4_tune 32 = .ok (.putfield 99, 3) := by decide +kernel
theorem dX4_tune_35 : decode cX4_tune 35 = .ok (.aload 4, 2) := by decide +kernel
theorem dX4_tune_37 : decode cX4_tune 37 = .ok (.iload_n 3, 1) := by decide +kernel
theorem dX4_tune_38 : decode cX4_tune 38 = .ok (.putfield 102, 3) := by decide +kernel
theorem dX4_tune_41 : decode cX4_tune 41 = .ok (.iload 5, 2) := by decide +kernel
theorem dX4_tune_43 : decode cX4_tune 43 = .ok (.ireturn, 1) := by decide +kernel
set_option maxRecDepth 20000 in
theorem ggX4_string_X4_archerNumbered : GoodIn wsX4_string wsX4_archerNumbered := goodIn_ca (goodIn_r _ [6, 7, 8, 9, 10, 23, 24, 25, 26, 27, 28, 29, 30, 31, 32, 33, 34, 35, 36, 37, 38] (by decide +kernel) (by decide +kernel)) (goodIn_sub (fun _ h => List.mem_cons_of_mem _ (List.mem_append_right _ h)) (by decide +kernel))
set_option maxRecDepth 20000 in
theorem gX4_string_X4_archerNumbered : GoodIn wsX4_string (wsV RX4 78 RX4 yX4_archerNumbered wsX4_archerNumbered) := goodIn_app (goodIn_of _ (by decide +kernel)) ggX4_string_X4_archerNumbered
theorem dX4_string_0 : decode cX4_string 0 = .ok (.aload_n 0, 1) := by decide +kernel
theorem dX4_string_1 : decode cX4_string 1 = .ok (.iload_n 1, 1) := by decide +kernel
theorem dX4_string_2 : decode cX4_string 2 = .ok (.invokevirtual 78, 3) := by decide +kernel
theorem dX4_string_5 : decode cX4_string 5 = .ok (.astore_n 2, 1) := by decide +kernel
theorem dX4_string_6 : decode cX4_string 6 = .ok (.aload_n 2, 1) := by decide +kernel
theorem dX4_string_7 : decode cX4_string 7 = .ok (.getfield 105, 3) := by decide +kernel
theorem dX4_string_10 : decode cX4_string 10 = .ok (.f2d, 1) := by decide +kernel
theorem dX4_string_11 : decode cX4_string 11 = .ok (.dstore_n 3, 1) := by decide +kernel
theorem dX4_string_12 : decode cX4_string 12 = .ok (.aload_n 2, 1) := by decide +kernel
theorem dX4_string_13 : decode cX4_string 13 = .ok (.fconst 0, 1) := by decide +kernel
theorem dX4_string_14 : decode cX4_string 14 = .ok (.putfield 105, 3) := by decide +kernel
theorem dX4_string_17 : decode cX4_string 17 = .ok (.dload_n 3, 1) := by decide +kernel
theorem dX4_string_18 : decode cX4_string 18 = .ok (.dreturn, 1) := by decide +kernel
set_option maxRecDepth 20000 in
theorem ggX4_field_X4_needBetween : GoodIn wsX4_field wsX4_needBetween := goodIn_ca (goodIn_r _ [9, 10, 11] (by decide +kernel) (by decide +kernel)) (goodIn_sub (fun _ h => List.mem_cons_of_mem _ (List.mem_append_right _ h)) (by decide +kernel))
set_option maxRecDepth 20000 in
theorem gX4_field_X4_needBetween : GoodIn wsX4_field (va_wsS RX4 47 yX4_needBetween wsX4_needBetween) := goodIn_app (goodIn_of _ (by decide +kernel)) ggX4_field_X4_needBetween
set_option maxRecDepth 20000 in
theorem ggX4_field_X4_stuckArrows : GoodIn wsX4_field wsX4_stuckArrows := goodIn_r _ [15, 16, 17, 18, 19, 20, 21, 22, 23, 24, 25, 26, 27, 28, 29, 30, 31, 32, 33, 34, 35, 36, 37, 38, 39, 40, 41, 42, 43, 44, 45, 46, 47, 48, 49, 50, 51] (by decide +kernel) (by decide +kernel)
set_option maxRecDepth 20000 in
theorem gX4_field_X4_stuckArrows : GoodIn wsX4_field (wsV RX4 109 RX4 yX4_stuckArrows wsX4_stuckArrows) := goodIn_app (goodIn_of _ (by decide +kernel)) ggX4_field_X4_stuckArrows
theorem dX4_field_0 : decode cX4_field 0 = .ok (.iload_n 1, 1) := by decide +kernel
theorem dX4_field_1 : decode cX4_field 1 = .ok (.bipush 10, 2) := by decide +kernel
theorem dX4_field_3 : decode cX4_field 3 = .ok (.bipush 90, 2) := by decide +kernel
theorem dX4_field_5 : decode cX4_field 5 = .ok (.invokestatic 47, 3) := by decide +kernel
theorem dX4_field_8 : decode cX4_field 8 = .ok (.iload_n 2, 1) := by decide +kernel
theorem dX4_field_9 : decode cX4_field 9 = .ok (.bipush (-16), 2) := by decide +kernel
theorem dX4_field_11 : decode cX4_field 11 = .ok (.bipush 16, 2) := by decide +kernel
theorem dX4_field_13 : decode cX4_field 13 = .ok (.invokestatic 47, 3) := by decide +kernel
theorem dX4_field_16 : decode cX4_field 16 = .ok (.iload_n 3, 1) := by decide +kernel
theorem dX4_field_17 : decode cX4_field 17 = .ok (.iconst 1, 1) := by decide +kernel
theorem dX4_field_18 : decode cX4_field 18 = .ok (.bipush 8, 2) := by decide +kernel
theorem dX4_field_20 : decode cX4_field 20 = .ok (.invokestatic 47, 3) := by decide +kernel
theorem dX4_field_23 : decode cX4_field 23 = .ok (.aload_n 0, 1) := by decide +kernel
theorem dX4_field_24 : decode cX4_field 24 = .ok (.invokevirtual 109, 3) := by decide +kernel
theorem dX4_field_27 : decode cX4_field 27 = .ok (.ifCond .le 13, 3) := by decide +kernel
theorem dX4_field_30 : decode cX4_field 30 = .ok (.new 54, 3) := by decide +kernel
theorem dX4_field_33 : decode cX4_field 33 = .ok (.dup, 1) := by decide +kernel
theorem dX4_field_34 : decode cX4_field 34 = .ok (.ldc 113, 2) := by decide +kernel
theorem dX4_field_36 : decode cX4_field 36 = .ok (.invokespecial 58, 3) := by decide +kernel
theorem dX4_field_39 : decode cX4_field 39 = .ok (.athrow, 1) := by decide +kernel
theorem dX4_field_40 : decode cX4_field 40 = .ok (.aload_n 0, 1) := by decide +kernel
theorem dX4_field_41 : decode cX4_field 41 = .ok (.getfield 21, 3) := by decide +kernel
theorem dX4_field_44 : decode cX4_field 44 = .ok (.istore 4, 2) := by decide +kernel
theorem dX4_field_46 : decode cX4_field 46 = .ok (.aload_n 0, 1) := by decide +kernel
theorem dX4_field_47 : decode cX4_field 47 = .ok (.iload_n 1, 1) := by decide +kernel
theorem dX4_field_48 : decode cX4_field 48 = .ok (.putfield 21, 3) := by decide +kernel
theorem dX4_field_51 : decode cX4_field 51 = .ok (.aload_n 0, 1) := by decide +kernel
theorem dX4_field_52 : decode cX4_field 52 = .ok (.iload_n 2, 1) := by decide +kernel
theorem dX4_field_53 : decode cX4_field 53 = .ok (.putfield 115, 3) := by decide +kernel
theorem dX4_field_56 : decode cX4_field 56 = .ok (.aload_n 0, 1) := by decide +kernel
theorem dX4_field_57 : decode cX4_field 57 = .ok (.iload_n 3, 1) := by decide +kernel
theorem dX4_field_58 : decode cX4_field 58 = .ok (.putfield 25, 3) := by decide +kernel
theorem dX4_field_61 : decode cX4_field 61 = .ok (.iload 4, 2) := by decide +kernel
theorem dX4_field_63 : decode cX4_field 63 = .ok (.ireturn, 1) := by decide +kernel
set_option maxRecDepth 20000 in
theorem ggX4_wind_X4_needBetween : GoodIn wsX4_wind wsX4_needBetween := goodIn_ca (goodIn_r _ [5, 6, 7] (by decide +kernel) (by decide +kernel)) (goodIn_sub (fun _ h => List.mem_cons_of_mem _ (List.mem_append_right _ h)) (by decide +kernel))
set_option maxRecDepth 20000 in
theorem gX4_wind_X4_needBetween : GoodIn wsX4_wind (va_wsS RX4 47 yX4_needBetween wsX4_needBetween) := goodIn_app (goodIn_of _ (by decide +kernel)) ggX4_wind_X4_needBetween
theorem dX4_wind_0 : decode cX4_wind 0 = .ok (.iload_n 1, 1) := by decide +kernel
theorem dX4_wind_1 : decode cX4_wind 1 = .ok (.bipush (-16), 2) := by decide +kernel
theorem dX4_wind_3 : decode cX4_wind 3 = .ok (.bipush 16, 2) := by decide +kernel
theorem dX4_wind_5 : decode cX4_wind 5 = .ok (.invokestatic 47, 3) := by decide +kernel
theorem dX4_wind_8 : decode cX4_wind 8 = .ok (.aload_n 0, 1) := by decide +kernel
theorem dX4_wind_9 : decode cX4_wind 9 = .ok (.getfield 115, 3) := by decide +kernel
theorem dX4_wind_12 : decode cX4_wind 12 = .ok (.istore_n 2, 1) := by decide +kernel
theorem dX4_wind_13 : decode cX4_wind 13 = .ok (.aload_n 0, 1) := by decide +kernel
theorem dX4_wind_14 : decode cX4_wind 14 = .ok (.iload_n 1, 1) := by decide +kernel
theorem dX4_wind_15 : decode cX4_wind 15 = .ok (.putfield 115, 3) := by decide +kernel
theorem dX4_wind_18 : decode cX4_wind 18 = .ok (.iload_n 2, 1) := by decide +kernel
theorem dX4_wind_19 : decode cX4_wind 19 = .ok (.ireturn, 1) := by decide +kernel
set_option maxRecDepth 20000 in
theorem ggX4_shoot_X4_archerNumbered : GoodIn wsX4_shoot wsX4_archerNumbered := goodIn_ca (goodIn_r _ [19, 20, 21, 22, 23, 152, 153, 154, 155, 156, 157, 158, 159, 160, 161, 162, 163, 164, 165, 166, 167] (by decide +kernel) (by decide +kernel)) (goodIn_sub (fun _ h => List.mem_cons_of_mem _ (List.mem_append_right _ h)) (by decide +kernel))
set_option maxRecDepth 20000 in
theorem gX4_shoot_X4_archerNumbered : GoodIn wsX4_shoot (wsV RX4 78 RX4 yX4_archerNumbered wsX4_archerNumbered) := goodIn_app (goodIn_of _ (by decide +kernel)) ggX4_shoot_X4_archerNumbered
set_option maxRecDepth 20000 in
theorem ggX4_shoot_X4_needArrow : GoodIn wsX4_shoot wsX4_needArrow := goodIn_ca (goodIn_r _ [26, 20, 21] (by decide +kernel) (by decide +kernel)) (goodIn_sub (fun _ h => List.mem_cons_of_mem _ (List.mem_append_right _ h)) (by decide +kernel))
set_option maxRecDepth 20000 in
theorem gX4_shoot_X4_needArrow : GoodIn wsX4_shoot (va_wsS RX4 118 yX4_needArrow wsX4_needArrow) := goodIn_app (goodIn_of _ (by decide +kernel)) ggX4_shoot_X4_needArrow
set_option maxRecDepth 20000 in
theorem ggX4_shoot_X4_quiverOf : GoodIn wsX4_shoot wsX4_quiverOf := goodIn_ca (goodIn_r _ [30, 1, 2, 31, 32, 183, 184, 185, 186, 187, 188, 189, 190, 191, 192, 193, 194, 152, 153, 154, 155, 156, 157, 158, 159, 160, 161, 162, 163, 164, 165, 166, 167] (by decide +kernel) (by decide +kernel)) (goodIn_sub (fun _ h => List.mem_cons_of_mem _ (List.mem_append_left _ (List.mem_append_right _ h))) (by decide +kernel))
set_option maxRecDepth 20000 in
theorem gX4_shoot_X4_quiverOf : GoodIn wsX4_shoot (wsV RX4 126 RX4 yX4_quiverOf wsX4_quiverOf) := goodIn_app (goodIn_of _ (by decide +kernel)) ggX4_shoot_X4_quiverOf
set_option maxRecDepth 20000 in
theorem ggX4_shoot_X2_turn : GoodIn wsX4_shoot wsX2_turn := goodIn_r _ [37, 38, 39, 40, 41, 42, 36, 43, 44, 173, 174, 175, 176, 177, 178, 179, 180, 181, 182] (by decide +kernel) (by decide +kernel)
set_option maxRecDepth 20000 in
theorem gX4_shoot_X2_turn : GoodIn wsX4_shoot (wsV RX4 136 RX2 yX2_turn wsX2_turn) := goodIn_app (goodIn_of _ (by decide +kernel)) ggX4_shoot_X2_turn
set_option maxRecDepth 20000 in
theorem ggX4_shoot_X1_fly : GoodIn wsX4_shoot wsX1_fly := goodIn_r _ [49, 50, 51, 52, 53, 54, 55, 56, 57, 58, 59, 60, 61, 62, 63, 64, 65, 66, 67, 68, 69, 70, 183, 184, 185, 186, 187, 188, 189, 190, 191, 192, 193, 194, 168, 169, 170, 171, 172, 195, 196] (by decide +kernel) (by decide +kernel)
set_option maxRecDepth 20000 in
theorem gX4_shoot_X1_fly : GoodIn wsX4_shoot (wsV RX4 141 RX1 yX1_fly wsX1_fly) := goodIn_app (goodIn_of _ (by decide +kernel)) ggX4_shoot_X1_fly
set_option maxRecDepth 20000 in
theorem ggX4_shoot_X1_shake : GoodIn wsX4_shoot wsX1_shake := goodIn_r _ [74, 56, 75, 76, 57, 195, 196] (by decide +kernel) (by decide +kernel)
set_option maxRecDepth 20000 in
theorem gX4_shoot_X1_shake : GoodIn wsX4_shoot (wsV RX4 148 RX1 yX1_shake wsX1_shake) := goodIn_app (goodIn_of _ (by decide +kernel)) ggX4_shoot_X1_shake
set_option maxRecDepth 20000 in
theorem ggX4_shoot_X4_splitWhatIsHit : GoodIn wsX4_shoot wsX4_splitWhatIsHit := goodIn_r _ [80, 81, 32, 7, 4, 82, 83, 84, 85, 86, 87, 88, 89, 90, 91, 92, 93, 94, 18, 95, 152, 153, 154, 155, 156, 157, 158, 159, 160, 161, 162, 163, 164, 165, 166, 167, 168, 169, 170, 171, 172, 195, 196] (by decide +kernel) (by decide +kernel)
set_option maxRecDepth 20000 in
theorem gX4_shoot_X4_splitWhatIsHit : GoodIn wsX4_shoot (wsV RX4 151 RX4 yX4_splitWhatIsHit wsX4_splitWhatIsHit) := goodIn_app (goodIn_of _ (by decide +kernel)) ggX4_shoot_X4_splitWhatIsHit
set_option maxRecDepth 20000 in
theorem ggX4_shoot_X1_worth : GoodIn wsX4_shoot wsX1_worth := goodIn_r _ [99, 60, 100, 101, 102, 103, 48, 104, 56, 57, 195, 196] (by decide +kernel) (by decide +kernel)
set_option maxRecDepth 20000 in
theorem gX4_shoot_X1_worth : GoodIn wsX4_shoot (wsV RX4 154 RX1 yX1_worth wsX1_worth) := goodIn_app (goodIn_of _ (by decide +kernel)) ggX4_shoot_X1_worth
set_option maxRecDepth 20000 in
theorem ggX4_shoot_X3_land : GoodIn wsX4_shoot wsX3_land := goodIn_r _ [108, 90, 89, 93, 92, 88, 168, 169, 170, 171, 172, 195, 196] (by decide +kernel) (by decide +kernel)
set_option maxRecDepth 20000 in
theorem gX4_shoot_X3_land : GoodIn wsX4_shoot (wsV RX4 157 RX3 yX3_land wsX3_land) := goodIn_app (goodIn_of _ (by decide +kernel)) ggX4_shoot_X3_land
set_option maxRecDepth 20000 in
theorem ggX4_shoot_X0_count : GoodIn wsX4_shoot wsX0_count := goodIn_r _ [112, 113, 114, 115, 116, 117, 70, 118, 119, 183, 184, 185, 186, 187, 188, 189, 190, 191, 192, 193, 194] (by decide +kernel) (by decide +kernel)
set_option maxRecDepth 20000 in
theorem gX4_shoot_X0_count : GoodIn wsX4_shoot (wsV RX4 161 RX0 yX0_count wsX0_count) := goodIn_app (goodIn_of _ (by decide +kernel)) ggX4_shoot_X0_count
set_option maxRecDepth 20000 in
theorem ggX4_shoot_X4_countForMatch : GoodIn wsX4_shoot wsX4_countForMatch := goodIn_r _ [123, 5, 7, 6, 124, 23, 125, 126, 102, 103, 48, 104, 56, 57, 127, 128, 129, 36, 130, 131, 132, 133, 44, 134, 135, 136, 137, 138, 38, 39, 40, 41, 42, 43, 139, 140, 141, 142, 143, 144, 145, 146, 147, 148, 149, 150, 151, 152, 153, 154, 155, 156, 157, 158, 159, 160, 161, 162, 163, 164, 165, 166, 167, 173, 174, 175, 176, 177, 178, 179, 180, 181, 182, 183, 184, 185, 186, 187, 188, 189, 190, 191, 192, 193, 194, 195, 196] (by decide +kernel) (by decide +kernel)
set_option maxRecDepth 20000 in
theorem gX4_shoot_X4_countForMatch : GoodIn wsX4_shoot (wsV RX4 167 RX4 yX4_countForMatch wsX4_countForMatch) := goodIn_app (goodIn_of _ (by decide +kernel)) ggX4_shoot_X4_countForMatch
theorem dX4_shoot_0 : decode cX4_shoot 0 = .ok (.aload_n 0, 1) := by decide +kernel
theorem dX4_shoot_1 : decode cX4_shoot 1 = .ok (.iload_n 1, 1) := by decide +kernel
theorem dX4_shoot_2 : decode cX4_shoot 2 = .ok (.invokevirtual 78, 3) := by decide +kernel
theorem dX4_shoot_5 : decode cX4_shoot 5 = .ok (.astore_n 3, 1) := by decide +kernel
theorem dX4_shoot_6 : decode cX4_shoot 6 = .ok (.iload_n 2, 1) := by decide +kernel
theorem dX4_shoot_7 : decode cX4_shoot 7 = .ok (.invokestatic 118, 3) := by decide +kernel
theorem dX4_shoot_10 : decode cX4_shoot 10 = .ok (.aload_n 0, 1) := by decide +kernel
theorem dX4_shoot_11 : decode cX4_shoot 11 = .ok (.getfield 121, 3) := by decide +kernel
theorem dX4_shoot_14 : decode cX4_shoot 14 = .ok (.ifCond .eq 13, 3) := by decide +kernel
theorem dX4_shoot_17 : decode cX4_shoot 17 = .ok (.new 54, 3) := by decide +kernel
theorem dX4_shoot_20 : decode cX4_shoot 20 = .ok (.dup, 1) := by decide +kernel
theorem dX4_shoot_21 : decode cX4_shoot 21 = .ok (.ldc 124, 2) := by decide +kernel
theorem dX4_shoot_23 : decode cX4_shoot 23 = .ok (.invokespecial 58, 3) := by decide +kernel
theorem dX4_shoot_26 : decode cX4_shoot 26 = .ok (.athrow, 1) := by decide +kernel
theorem dX4_shoot_27 : decode cX4_shoot 27 = .ok (.aload_n 0, 1) := by decide +kernel
theorem dX4_shoot_28 : decode cX4_shoot 28 = .ok (.aload_n 3, 1) := by decide +kernel
theorem dX4_shoot_29 : decode cX4_shoot 29 = .ok (.invokevirtual 126, 3) := by decide +kernel
theorem dX4_shoot_32 : decode cX4_shoot 32 = .ok (.astore 4, 2) := by decide +kernel
theorem dX4_shoot_34 : decode cX4_shoot 34 = .ok (.aload 4, 2) := by decide +kernel
theorem dX4_shoot_36 : decode cX4_shoot 36 = .ok (.getfield 130, 3) := by decide +kernel
theorem dX4_shoot_39 : decode cX4_shoot 39 = .ok (.iload_n 2, 1) := by decide +kernel
theorem dX4_shoot_40 : decode cX4_shoot 40 = .ok (.iaload, 1) := by decide +kernel
theorem dX4_shoot_41 : decode cX4_shoot 41 = .ok (.ifCond .eq 13, 3) := by decide +kernel
theorem dX4_shoot_44 : decode cX4_shoot 44 = .ok (.new 54, 3) := by decide +kernel
theorem dX4_shoot_47 : decode cX4_shoot 47 = .ok (.dup, 1) := by decide +kernel
theorem dX4_shoot_48 : decode cX4_shoot 48 = .ok (.ldc 134, 2) := by decide +kernel
theorem dX4_shoot_50 : decode cX4_shoot 50 = .ok (.invokespecial 58, 3) := by decide +kernel
theorem dX4_shoot_53 : decode cX4_shoot 53 = .ok (.athrow, 1) := by decide +kernel
theorem dX4_shoot_54 : decode cX4_shoot 54 = .ok (.aload_n 0, 1) := by decide +kernel
theorem dX4_shoot_55 : decode cX4_shoot 55 = .ok (.getfield 31, 3) := by decide +kernel
theorem dX4_shoot_58 : decode cX4_shoot 58 = .ok (.getfield 86, 3) := by decide +kernel
theorem dX4_shoot_61 : decode cX4_shoot 61 = .ok (.ifCond .eq 24, 3) := by decide +kernel
theorem dX4_shoot_64 : decode cX4_shoot 64 = .ok (.aload_n 0, 1) := by decide +kernel
theorem dX4_shoot_65 : decode cX4_shoot 65 = .ok (.getfield 31, 3) := by decide +kernel
theorem dX4_shoot_68 : decode cX4_shoot 68 = .ok (.invokevirtual 136, 3) := by decide +kernel
theorem dX4_shoot_71 : decode cX4_shoot 71 = .ok (.iload_n 1, 1) := by decide +kernel
theorem dX4_shoot_72 : decode cX4_shoot 72 = .ok (.if_icmp .eq 13, 3) := by decide +kernel
theorem dX4_shoot_75 : decode cX4_shoot 75 = .ok (.new 54, 3) := by decide +kernel
theorem dX4_shoot_78 : decode cX4_shoot 78 = .ok (.dup, 1) := by decide +kernel
theorem dX4_shoot_79 : decode cX4_shoot 79 = .ok (.ldc 139, 2) := by decide +kernel
theorem dX4_shoot_81 : decode cX4_shoot 81 = .ok (.invokespecial 58, 3) := by decide +kernel
theorem dX4_shoot_84 : decode cX4_shoot 84 = .ok (.athrow, 1) := by decide +kernel
theorem dX4_shoot_85 : decode cX4_shoot 85 = .ok (.aload_n 0, 1) := by decide +kernel
theorem dX4_shoot_86 : decode cX4_shoot 86 = .ok (.getfield 41, 3) := by decide +kernel
theorem dX4_shoot_89 : decode cX4_shoot 89 = .ok (.aload_n 3, 1) := by decide +kernel
theorem dX4_shoot_90 : decode cX4_shoot 90 = .ok (.aload 4, 2) := by decide +kernel
theorem dX4_shoot_92 : decode cX4_shoot 92 = .ok (.aload_n 3, 1) := by decide +kernel
theorem dX4_shoot_93 : decode cX4_shoot 93 = .ok (.getfield 99, 3) := by decide +kernel
theorem dX4_shoot_96 : decode cX4_shoot 96 = .ok (.aload_n 0, 1) := by decide +kernel
theorem dX4_shoot_97 : decode cX4_shoot 97 = .ok (.getfield 21, 3) := by decide +kernel
theorem dX4_shoot_100 : decode cX4_shoot 100 = .ok (.aload_n 0, 1) := by decide +kernel
theorem dX4_shoot_101 : decode cX4_shoot 101 = .ok (.getfield 115, 3) := by decide +kernel
theorem dX4_shoot_104 : decode cX4_shoot 104 = .ok (.invokevirtual 141, 3) := by decide +kernel
theorem dX4_shoot_107 : decode cX4_shoot 107 = .ok (.aload_n 0, 1) := by decide +kernel
theorem dX4_shoot_108 : decode cX4_shoot 108 = .ok (.bipush 13, 2) := by decide +kernel
theorem dX4_shoot_110 : decode cX4_shoot 110 = .ok (.aload_n 0, 1) := by decide +kernel
theorem dX4_shoot_111 : decode cX4_shoot 111 = .ok (.getfield 145, 3) := by decide +kernel
theorem dX4_shoot_114 : decode cX4_shoot 114 = .ok (.imul, 1) := by decide +kernel
theorem dX4_shoot_115 : decode cX4_shoot 115 = .ok (.bipush 7, 2) := by decide +kernel
theorem dX4_shoot_117 : decode cX4_shoot 117 = .ok (.iadd, 1) := by decide +kernel
theorem dX4_shoot_118 : decode cX4_shoot 118 = .ok (.bipush 64, 2) := by decide +kernel
theorem dX4_shoot_120 : decode cX4_shoot 120 = .ok (.irem, 1) := by decide +kernel
theorem dX4_shoot_121 : decode cX4_shoot 121 = .ok (.putfield 145, 3) := by decide +kernel
theorem dX4_shoot_124 : decode cX4_shoot 124 = .ok (.aload_n 0, 1) := by decide +kernel
theorem dX4_shoot_125 : decode cX4_shoot 125 = .ok (.getfield 41, 3) := by decide +kernel
theorem dX4_shoot_128 : decode cX4_shoot 128 = .ok (.aload_n 0, 1) := by decide +kernel
theorem dX4_shoot_129 : decode cX4_shoot 129 = .ok (.getfield 145, 3) := by decide +kernel
theorem dX4_shoot_132 : decode cX4_shoot 132 = .ok (.aload_n 3, 1) := by decide +kernel
theorem dX4_shoot_133 : decode cX4_shoot 133 = .ok (.getfield 64, 3) := by decide +kernel
theorem dX4_shoot_136 : decode cX4_shoot 136 = .ok (.aload_n 0, 1) := by decide +kernel
theorem dX4_shoot_137 : decode cX4_shoot 137 = .ok (.getfield 21, 3) := by decide +kernel
theorem dX4_shoot_140 : decode cX4_shoot 140 = .ok (.invokevirtual 148, 3) := by decide +kernel
theorem dX4_shoot_143 : decode cX4_shoot 143 = .ok (.aload_n 0, 1) := by decide +kernel
theorem dX4_shoot_144 : decode cX4_shoot 144 = .ok (.invokevirtual 151, 3) := by decide +kernel
theorem dX4_shoot_147 : decode cX4_shoot 147 = .ok (.aload_n 0, 1) := by decide +kernel
theorem dX4_shoot_148 : decode cX4_shoot 148 = .ok (.getfield 41, 3) := by decide +kernel
theorem dX4_shoot_151 : decode cX4_shoot 151 = .ok (.aload_n 0, 1) := by decide +kernel
theorem dX4_shoot_152 : decode cX4_shoot 152 = .ok (.getfield 25, 3) := by decide +kernel
theorem dX4_shoot_155 : decode cX4_shoot 155 = .ok (.invokevirtual 154, 3) := by decide +kernel
theorem dX4_shoot_158 : decode cX4_shoot 158 = .ok (.istore 5, 2) := by decide +kernel
theorem dX4_shoot_160 : decode cX4_shoot 160 = .ok (.aload 4, 2) := by decide +kernel
theorem dX4_shoot_162 : decode cX4_shoot 162 = .ok (.iload_n 2, 1) := by decide +kernel
theorem dX4_shoot_163 : decode cX4_shoot 163 = .ok (.aload_n 0, 1) := by decide +kernel
theorem dX4_shoot_164 : decode cX4_shoot 164 = .ok (.getfield 41, 3) := by decide +kernel
theorem dX4_shoot_167 : decode cX4_shoot 167 = .ok (.iload 5, 2) := by decide +kernel
theorem dX4_shoot_169 : decode cX4_shoot 169 = .ok (.invokevirtual 157, 3) := by decide +kernel
theorem dX4_shoot_172 : decode cX4_shoot 172 = .ok (.aload_n 3, 1) := by decide +kernel
theorem dX4_shoot_173 : decode cX4_shoot 173 = .ok (.iload 5, 2) := by decide +kernel
theorem dX4_shoot_175 : decode cX4_shoot 175 = .ok (.invokevirtual 161, 3) := by decide +kernel
theorem dX4_shoot_178 : decode cX4_shoot 178 = .ok (.aload_n 0, 1) := by decide +kernel
theorem dX4_shoot_179 : decode cX4_shoot 179 = .ok (.dup, 1) := by decide +kernel
theorem dX4_shoot_180 : decode cX4_shoot 180 = .ok (.getfield 164, 3) := by decide +kernel
theorem dX4_shoot_183 : decode cX4_shoot 183 = .ok (.iconst 1, 1) := by decide +kernel
theorem dX4_shoot_184 : decode cX4_shoot 184 = .ok (.iadd, 1) := by decide +kernel
theorem dX4_shoot_185 : decode cX4_shoot 185 = .ok (.putfield 164, 3) := by decide +kernel
theorem dX4_shoot_188 : decode cX4_shoot 188 = .ok (.aload_n 0, 1) := by decide +kernel
theorem dX4_shoot_189 : decode cX4_shoot 189 = .ok (.getfield 31, 3) := by decide +kernel
theorem dX4_shoot_192 : decode cX4_shoot 192 = .ok (.getfield 86, 3) := by decide +kernel
theorem dX4_shoot_195 : decode cX4_shoot 195 = .ok (.ifCond .eq 9, 3) := by decide +kernel
theorem dX4_shoot_198 : decode cX4_shoot 198 = .ok (.aload_n 0, 1) := by decide +kernel
theorem dX4_shoot_199 : decode cX4_shoot 199 = .ok (.iload 5, 2) := by decide +kernel
theorem dX4_shoot_201 : decode cX4_shoot 201 = .ok (.invokevirtual 167, 3) := by decide +kernel
theorem dX4_shoot_204 : decode cX4_shoot 204 = .ok (.iload 5, 2) := by decide +kernel
theorem dX4_shoot_206 : decode cX4_shoot 206 = .ok (.ireturn, 1) := by decide +kernel
set_option maxRecDepth 20000 in
theorem ggX4_pull_X4_stuckArrows : GoodIn wsX4_pull wsX4_stuckArrows := goodIn_r _ [9, 1, 2, 10, 11, 12, 13, 14, 15, 16, 17, 18, 19, 20, 21, 22, 35, 36, 37, 38, 39, 40, 41, 42, 43, 44, 45, 46, 47, 48, 49, 50, 51, 52, 53, 54, 55] (by decide +kernel) (by decide +kernel)
set_option maxRecDepth 20000 in
theorem gX4_pull_X4_stuckArrows : GoodIn wsX4_pull (wsV RX4 109 RX4 yX4_stuckArrows wsX4_stuckArrows) := goodIn_app (goodIn_of _ (by decide +kernel)) ggX4_pull_X4_stuckArrows
set_option maxRecDepth 20000 in
theorem ggX4_pull_X3_bringBack : GoodIn wsX4_pull wsX3_bringBack := goodIn_r _ [26, 15, 51, 52, 53, 54, 55] (by decide +kernel) (by decide +kernel)
set_option maxRecDepth 20000 in
theorem gX4_pull_X3_bringBack : GoodIn wsX4_pull (wsV RX4 170 RX3 yX3_bringBack wsX3_bringBack) := goodIn_app (goodIn_of _ (by decide +kernel)) ggX4_pull_X3_bringBack
set_option maxRecDepth 20000 in
theorem ggX4_pull_X0_forgetEnd : GoodIn wsX4_pull wsX0_forgetEnd := goodIn_r _ [31, 32, 33, 34, 56, 57, 58, 59, 60, 61, 62, 63, 64, 65, 66, 67] (by decide +kernel) (by decide +kernel)
set_option maxRecDepth 20000 in
theorem gX4_pull_X0_forgetEnd : GoodIn wsX4_pull (wsV RX4 173 RX0 yX0_forgetEnd wsX0_forgetEnd) := goodIn_app (goodIn_of _ (by decide +kernel)) ggX4_pull_X0_forgetEnd
theorem dX4_pull_0 : decode cX4_pull 0 = .ok (.aload_n 0, 1) := by decide +kernel
theorem dX4_pull_1 : decode cX4_pull 1 = .ok (.invokevirtual 109, 3) := by decide +kernel
theorem dX4_pull_4 : decode cX4_pull 4 = .ok (.istore_n 1, 1) := by decide +kernel
theorem dX4_pull_5 : decode cX4_pull 5 = .ok (.iconst 0, 1) := by decide +kernel
theorem dX4_pull_6 : decode cX4_pull 6 = .ok (.istore_n 2, 1) := by decide +kernel
theorem dX4_pull_7 : decode cX4_pull 7 = .ok (.iload_n 2, 1) := by decide +kernel
theorem dX4_pull_8 : decode cX4_pull 8 = .ok (.aload_n 0, 1) := by decide +kernel
theorem dX4_pull_9 : decode cX4_pull 9 = .ok (.getfield 67, 3) := by decide +kernel
theorem dX4_pull_12 : decode cX4_pull 12 = .ok (.if_icmp .ge 31, 3) := by decide +kernel
theorem dX4_pull_15 : decode cX4_pull 15 = .ok (.aload_n 0, 1) := by decide +kernel
theorem dX4_pull_16 : decode cX4_pull 16 = .ok (.getfield 17, 3) := by decide +kernel
theorem dX4_pull_19 : decode cX4_pull 19 = .ok (.iload_n 2, 1) := by decide +kernel
theorem dX4_pull_20 : decode cX4_pull 20 = .ok (.aaload, 1) := by decide +kernel
theorem dX4_pull_21 : decode cX4_pull 21 = .ok (.iconst 1, 1) := by decide +kernel
theorem dX4_pull_22 : decode cX4_pull 22 = .ok (.invokevirtual 170, 3) := by decide +kernel
theorem dX4_pull_25 : decode cX4_pull 25 = .ok (.pop, 1) := by decide +kernel
theorem dX4_pull_26 : decode cX4_pull 26 = .ok (.aload_n 0, 1) := by decide +kernel
theorem dX4_pull_27 : decode cX4_pull 27 = .ok (.getfield 17, 3) := by decide +kernel
theorem dX4_pull_30 : decode cX4_pull 30 = .ok (.iload_n 2, 1) := by decide +kernel
theorem dX4_pull_31 : decode cX4_pull 31 = .ok (.aaload, 1) := by decide +kernel
theorem dX4_pull_32 : decode cX4_pull 32 = .ok (.iconst 2, 1) := by decide +kernel
theorem dX4_pull_33 : decode cX4_pull 33 = .ok (.invokevirtual 170, 3) := by decide +kernel
theorem dX4_pull_36 : decode cX4_pull 36 = .ok (.pop, 1) := by decide +kernel
theorem dX4_pull_37 : decode cX4_pull 37 = .ok (.iinc 2 1, 3) := by decide +kernel
theorem dX4_pull_40 : decode cX4_pull 40 = .ok (.goto (-33), 3) := by decide +kernel
theorem dX4_pull_43 : decode cX4_pull 43 = .ok (.iconst 0, 1) := by decide +kernel
theorem dX4_pull_44 : decode cX4_pull 44 = .ok (.istore_n 2, 1) := by decide +kernel
theorem dX4_pull_45 : decode cX4_pull 45 = .ok (.iload_n 2, 1) := by decide +kernel
theorem dX4_pull_46 : decode cX4_pull 46 = .ok (.aload_n 0, 1) := by decide +kernel
theorem dX4_pull_47 : decode cX4_pull 47 = .ok (.getfield 51, 3) := by decide +kernel
theorem dX4_pull_50 : decode cX4_pull 50 = .ok (.if_icmp .ge 18, 3) := by decide +kernel
theorem dX4_pull_53 : decode cX4_pull 53 = .ok (.aload_n 0, 1) := by decide +kernel
theorem dX4_pull_54 : decode cX4_pull 54 = .ok (.getfield 11, 3) := by decide +kernel
theorem dX4_pull_57 : decode cX4_pull 57 = .ok (.iload_n 2, 1) := by decide +kernel
theorem dX4_pull_58 : decode cX4_pull 58 = .ok (.aaload, 1) := by decide +kernel
theorem dX4_pull_59 : decode cX4_pull 59 = .ok (.invokevirtual 173, 3) := by decide +kernel
theorem dX4_pull_62 : decode cX4_pull 62 = .ok (.iinc 2 1, 3) := by decide +kernel
theorem dX4_pull_65 : decode cX4_pull 65 = .ok (.goto (-20), 3) := by decide +kernel
theorem dX4_pull_68 : decode cX4_pull 68 = .ok (.iload_n 1, 1) := by decide +kernel
theorem dX4_pull_69 : decode cX4_pull 69 = .ok (.ireturn, 1) := by decide +kernel
set_option maxRecDepth 20000 in
theorem ggX4_mend_X4_needQuiver : GoodIn wsX4_mend wsX4_needQuiver := goodIn_ca (goodIn_r _ [6, 7, 8, 9, 16, 17, 18, 19, 20, 21, 22, 23, 24, 25, 26, 27, 28, 29, 30, 31] (by decide +kernel) (by decide +kernel)) (goodIn_sub (fun _ h => List.mem_cons_of_mem _ (List.mem_append_right _ h)) (by decide +kernel))
set_option maxRecDepth 20000 in
theorem gX4_mend_X4_needQuiver : GoodIn wsX4_mend (wsV RX4 82 RX4 yX4_needQuiver wsX4_needQuiver) := goodIn_app (goodIn_of _ (by decide +kernel)) ggX4_mend_X4_needQuiver
set_option maxRecDepth 20000 in
theorem ggX4_mend_X3_bringBack : GoodIn wsX4_mend wsX3_bringBack := goodIn_r _ [14, 15, 32, 33, 34, 35, 36] (by decide +kernel) (by decide +kernel)
set_option maxRecDepth 20000 in
theorem gX4_mend_X3_bringBack : GoodIn wsX4_mend (wsV RX4 170 RX3 yX3_bringBack wsX3_bringBack) := goodIn_app (goodIn_of _ (by decide +kernel)) ggX4_mend_X3_bringBack
theorem dX4_mend_0 : decode cX4_mend 0 = .ok (.aload_n 0, 1) := by decide +kernel
theorem dX4_mend_1 : decode cX4_mend 1 = .ok (.iload_n 1, 1) := by decide +kernel
theorem dX4_mend_2 : decode cX4_mend 2 = .ok (.invokevirtual 82, 3) := by decide +kernel
theorem dX4_mend_5 : decode cX4_mend 5 = .ok (.aload_n 0, 1) := by decide +kernel
theorem dX4_mend_6 : decode cX4_mend 6 = .ok (.getfield 17, 3) := by decide +kernel
theorem dX4_mend_9 : decode cX4_mend 9 = .ok (.iload_n 1, 1) := by decide +kernel
theorem dX4_mend_10 : decode cX4_mend 10 = .ok (.aaload, 1) := by decide +kernel
theorem dX4_mend_11 : decode cX4_mend 11 = .ok (.iconst 3, 1) := by decide +kernel
theorem dX4_mend_12 : decode cX4_mend 12 = .ok (.invokevirtual 170, 3) := by decide +kernel
theorem dX4_mend_15 : decode cX4_mend 15 = .ok (.ireturn, 1) := by decide +kernel
set_option maxRecDepth 20000 in
theorem ggX4_match_X4_archerNumbered : GoodIn wsX4_match wsX4_archerNumbered := goodIn_ca (goodIn_r _ [13, 14, 15, 16, 17, 36, 37, 38, 39, 40, 41, 42, 43, 44, 45, 46, 47, 48, 49, 50, 51] (by decide +kernel) (by decide +kernel)) (goodIn_sub (fun _ h => List.mem_cons_of_mem _ (List.mem_append_right _ h)) (by decide +kernel))
set_option maxRecDepth 20000 in
theorem gX4_match_X4_archerNumbered : GoodIn wsX4_match (wsV RX4 78 RX4 yX4_archerNumbered wsX4_archerNumbered) := goodIn_app (goodIn_of _ (by decide +kernel)) ggX4_match_X4_archerNumbered
set_option maxRecDepth 20000 in
theorem ggX4_match_X2_begin : GoodIn wsX4_match wsX2_begin := goodIn_r _ [22, 23, 24, 25, 26, 27, 28, 29, 30, 31, 21, 32, 33, 34, 35, 52, 53, 54, 55, 56, 57, 58, 59, 60, 61] (by decide +kernel) (by decide +kernel)
set_option maxRecDepth 20000 in
theorem gX4_match_X2_begin : GoodIn wsX4_match (wsV RX4 183 RX2 yX2_begin wsX2_begin) := goodIn_app (goodIn_of _ (by decide +kernel)) ggX4_match_X2_begin
theorem dX4_match_0 : decode cX4_match 0 = .ok (.aload_n 0, 1) := by decide +kernel
theorem dX4_match_1 : decode cX4_match 1 = .ok (.iload_n 1, 1) := by decide +kernel
theorem dX4_match_2 : decode cX4_match 2 = .ok (.invokevirtual 78, 3) := by decide +kernel
theorem dX4_match_5 : decode cX4_match 5 = .ok (.astore_n 3, 1) := by decide +kernel
theorem dX4_match_6 : decode cX4_match 6 = .ok (.aload_n 0, 1) := by decide +kernel
theorem dX4_match_7 : decode cX4_match 7 = .ok (.iload_n 2, 1) := by decide +kernel
theorem dX4_match_8 : decode cX4_match 8 = .ok (.invokevirtual 78, 3) := by decide +kernel
theorem dX4_match_11 : decode cX4_match 11 = .ok (.astore 4, 2) := by decide +kernel
theorem dX4_match_13 : decode cX4_match 13 = .ok (.iload_n 1, 1) := by decide +kernel
theorem dX4_match_14 : decode cX4_match 14 = .ok (.iload_n 2, 1) := by decide +kernel
theorem dX4_match_15 : decode cX4_match 15 = .ok (.if_icmp .ne 13, 3) := by decide +kernel
theorem dX4_match_18 : decode cX4_match 18 = .ok (.new 176, 3) := by decide +kernel
theorem dX4_match_21 : decode cX4_match 21 = .ok (.dup, 1) := by decide +kernel
theorem dX4_match_22 : decode cX4_match 22 = .ok (.ldc 178, 2) := by decide +kernel
theorem dX4_match_24 : decode cX4_match 24 = .ok (.invokespecial 180, 3) := by decide +kernel
theorem dX4_match_27 : decode cX4_match 27 = .ok (.athrow, 1) := by decide +kernel
theorem dX4_match_28 : decode cX4_match 28 = .ok (.aload_n 0, 1) := by decide +kernel
theorem dX4_match_29 : decode cX4_match 29 = .ok (.getfield 31, 3) := by decide +kernel
theorem dX4_match_32 : decode cX4_match 32 = .ok (.getfield 86, 3) := by decide +kernel
theorem dX4_match_35 : decode cX4_match 35 = .ok (.ifCond .eq 13, 3) := by decide +kernel
theorem dX4_match_38 : decode cX4_match 38 = .ok (.new 54, 3) := by decide +kernel
theorem dX4_match_41 : decode cX4_match 41 = .ok (.dup, 1) := by decide +kernel
theorem dX4_match_42 : decode cX4_match 42 = .ok (.ldc 90, 2) := by decide +kernel
theorem dX4_match_44 : decode cX4_match 44 = .ok (.invokespecial 58, 3) := by decide +kernel
theorem dX4_match_47 : decode cX4_match 47 = .ok (.athrow, 1) := by decide +kernel
theorem dX4_match_48 : decode cX4_match 48 = .ok (.aload_n 3, 1) := by decide +kernel
theorem dX4_match_49 : decode cX4_match 49 = .ok (.getfield 96, 3) := by decide +kernel
theorem dX4_match_52 : decode cX4_match 52 = .ok (.iconst (-1), 1) := by decide +kernel
theorem dX4_match_53 : decode cX4_match 53 = .ok (.if_icmp .eq 12, 3) := by decide +kernel
theorem dX4_match_56 : decode cX4_match 56 = .ok (.aload 4, 2) := by decide +kernel
theorem dX4_match_58 : decode cX4_match 58 = .ok (.getfield 96, 3) := by decide +kernel
theorem dX4_match_61 : decode cX4_match 61 = .ok (.iconst (-1), 1) := by decide +kernel
theorem dX4_match_62 : decode cX4_match 62 = .ok (.if_icmp .ne 13, 3) := by decide +kernel
theorem dX4_match_65 : decode cX4_match 65 = .ok (.new 54, 3) := by decide +kernel
theorem dX4_match_68 : decode cX4_match 68 = .ok (.dup, 1) := by decide +kernel
theorem dX4_match_69 : decode cX4_match 69 = .ok (.ldc 181, 2) := by decide +kernel
theorem dX4_match_71 : decode cX4_match 71 = .ok (.invokespecial 58, 3) := by decide +kernel
theorem dX4_match_74 : decode cX4_match 74 = .ok (.athrow, 1) := by decide +kernel
theorem dX4_match_75 : decode cX4_match 75 = .ok (.aload_n 0, 1) := by decide +kernel
theorem dX4_match_76 : decode cX4_match 76 = .ok (.getfield 31, 3) := by decide +kernel
theorem dX4_match_79 : decode cX4_match 79 = .ok (.iload_n 1, 1) := by decide +kernel
theorem dX4_match_80 : decode cX4_match 80 = .ok (.iload_n 2, 1) := by decide +kernel
theorem dX4_match_81 : decode cX4_match 81 = .ok (.invokevirtual 183, 3) := by decide +kernel
theorem dX4_match_84 : decode cX4_match 84 = .ok (.aload_n 0, 1) := by decide +kernel
theorem dX4_match_85 : decode cX4_match 85 = .ok (.dup, 1) := by decide +kernel
theorem dX4_match_86 : decode cX4_match 86 = .ok (.getfield 187, 3) := by decide +kernel
theorem dX4_match_89 : decode cX4_match 89 = .ok (.iconst 1, 1) := by decide +kernel
theorem dX4_match_90 : decode cX4_match 90 = .ok (.iadd, 1) := by decide +kernel
theorem dX4_match_91 : decode cX4_match 91 = .ok (.putfield 187, 3) := by decide +kernel
theorem dX4_match_94 : decode cX4_match 94 = .ok (.aload_n 0, 1) := by decide +kernel
theorem dX4_match_95 : decode cX4_match 95 = .ok (.getfield 187, 3) := by decide +kernel
theorem dX4_match_98 : decode cX4_match 98 = .ok (.ireturn, 1) := by decide +kernel
theorem dX4_breakOff_0 : decode cX4_breakOff 0 = .ok (.aload_n 0, 1) := by decide +kernel
theorem dX4_breakOff_1 : decode cX4_breakOff 1 = .ok (.getfield 31, 3) := by decide +kernel
theorem dX4_breakOff_4 : decode cX4_breakOff 4 = .ok (.getfield 86, 3) := by decide +kernel
theorem dX4_breakOff_7 : decode cX4_breakOff 7 = .ok (.ifCond .ne 13, 3) := by decide +kernel
theorem dX4_breakOff_10 : decode cX4_breakOff 10 = .ok (.new 54, 3) := by decide +kernel
theorem dX4_breakOff_13 : decode cX4_breakOff 13 = .ok (.dup, 1) := by decide +kernel
theorem dX4_breakOff_14 : decode cX4_breakOff 14 = .ok (.ldc 190, 2) := by decide +kernel
theorem dX4_breakOff_16 : decode cX4_breakOff 16 = .ok (.invokespecial 58, 3) := by decide +kernel
theorem dX4_breakOff_19 : decode cX4_breakOff 19 = .ok (.athrow, 1) := by decide +kernel
theorem dX4_breakOff_20 : decode cX4_breakOff 20 = .ok (.aload_n 0, 1) := by decide +kernel
theorem dX4_breakOff_21 : decode cX4_breakOff 21 = .ok (.getfield 31, 3) := by decide +kernel
theorem dX4_breakOff_24 : decode cX4_breakOff 24 = .ok (.iconst 0, 1) := by decide +kernel
theorem dX4_breakOff_25 : decode cX4_breakOff 25 = .ok (.putfield 86, 3) := by decide +kernel
theorem dX4_breakOff_28 : decode cX4_breakOff 28 = .ok (.aload_n 0, 1) := by decide +kernel
theorem dX4_breakOff_29 : decode cX4_breakOff 29 = .ok (.getfield 31, 3) := by decide +kernel
theorem dX4_breakOff_32 : decode cX4_breakOff 32 = .ok (.getfield 192, 3) := by decide +kernel
theorem dX4_breakOff_35 : decode cX4_breakOff 35 = .ok (.bipush 10, 2) := by decide +kernel
theorem dX4_breakOff_37 : decode cX4_breakOff 37 = .ok (.imul, 1) := by decide +kernel
theorem dX4_breakOff_38 : decode cX4_breakOff 38 = .ok (.aload_n 0, 1) := by decide +kernel
theorem dX4_breakOff_39 : decode cX4_breakOff 39 = .ok (.getfield 31, 3) := by decide +kernel
theorem dX4_breakOff_42 : decode cX4_breakOff 42 = .ok (.getfield 195, 3) := by decide +kernel
theorem dX4_breakOff_45 : decode cX4_breakOff 45 = .ok (.iadd, 1) := by decide +kernel
theorem dX4_breakOff_46 : decode cX4_breakOff 46 = .ok (.ireturn, 1) := by decide +kernel
theorem dX4_close_0 : decode cX4_close 0 = .ok (.aload_n 0, 1) := by decide +kernel
theorem dX4_close_1 : decode cX4_close 1 = .ok (.getfield 121, 3) := by decide +kernel
theorem dX4_close_4 : decode cX4_close 4 = .ok (.istore_n 2, 1) := by decide +kernel
theorem dX4_close_5 : decode cX4_close 5 = .ok (.aload_n 0, 1) := by decide +kernel
theorem dX4_close_6 : decode cX4_close 6 = .ok (.iload_n 1, 1) := by decide +kernel
theorem dX4_close_7 : decode cX4_close 7 = .ok (.putfield 121, 3) := by decide +kernel
theorem dX4_close_10 : decode cX4_close 10 = .ok (.iload_n 2, 1) := by decide +kernel
theorem dX4_close_11 : decode cX4_close 11 = .ok (.ireturn, 1) := by decide +kernel
theorem dX4_horn_0 : decode cX4_horn 0 = .ok (.aload_n 0, 1) := by decide +kernel
theorem dX4_horn_1 : decode cX4_horn 1 = .ok (.dup, 1) := by decide +kernel
theorem dX4_horn_2 : decode cX4_horn 2 = .ok (.getfield 198, 3) := by decide +kernel
theorem dX4_horn_5 : decode cX4_horn 5 = .ok (.iconst 1, 1) := by decide +kernel
theorem dX4_horn_6 : decode cX4_horn 6 = .ok (.iadd, 1) := by decide +kernel
theorem dX4_horn_7 : decode cX4_horn 7 = .ok (.putfield 198, 3) := by decide +kernel
theorem dX4_horn_10 : decode cX4_horn 10 = .ok (.aload_n 0, 1) := by decide +kernel
theorem dX4_horn_11 : decode cX4_horn 11 = .ok (.getfield 198, 3) := by decide +kernel
theorem dX4_horn_14 : decode cX4_horn 14 = .ok (.ireturn, 1) := by decide +kernel
set_option maxRecDepth 20000 in
theorem ggX4_ofArcher_X4_archerNumbered : GoodIn wsX4_ofArcher wsX4_archerNumbered := goodIn_ca (goodIn_r _ [16, 17, 18, 19, 20, 38, 39, 40, 41, 42, 43, 44, 45, 46, 47, 48, 49, 50, 51, 52, 53] (by decide +kernel) (by decide +kernel)) (goodIn_sub (fun _ h => List.mem_cons_of_mem _ (List.mem_append_left _ (List.mem_append_right _ h))) (by decide +kernel))
set_option maxRecDepth 20000 in
theorem gX4_ofArcher_X4_archerNumbered : GoodIn wsX4_ofArcher (wsV RX4 78 RX4 yX4_archerNumbered wsX4_archerNumbered) := goodIn_app (goodIn_of _ (by decide +kernel)) ggX4_ofArcher_X4_archerNumbered
set_option maxRecDepth 20000 in
theorem ggX4_ofArcher_X4_needBetween : GoodIn wsX4_ofArcher wsX4_needBetween := goodIn_ca (goodIn_r _ [23, 24, 25] (by decide +kernel) (by decide +kernel)) (goodIn_sub (fun _ h => List.mem_cons_of_mem _ (List.mem_append_right _ h)) (by decide +kernel))
set_option maxRecDepth 20000 in
theorem gX4_ofArcher_X4_needBetween : GoodIn wsX4_ofArcher (va_wsS RX4 47 yX4_needBetween wsX4_needBetween) := goodIn_app (goodIn_of _ (by decide +kernel)) ggX4_ofArcher_X4_needBetween
theorem dX4_ofArcher_0 : decode cX4_ofArcher 0 = .ok (.aload_n 0, 1) := by decide +kernel
theorem dX4_ofArcher_1 : decode cX4_ofArcher 1 = .ok (.iload_n 1, 1) := by decide +kernel
theorem dX4_ofArcher_2 : decode cX4_ofArcher 2 = .ok (.invokevirtual 78, 3) := by decide +kernel
theorem dX4_ofArcher_5 : decode cX4_ofArcher 5 = .ok (.astore_n 3, 1) := by decide +kernel
theorem dX4_ofArcher_6 : decode cX4_ofArcher 6 = .ok (.iload_n 2, 1) := by decide +kernel
theorem dX4_ofArcher_7 : decode cX4_ofArcher 7 = .ok (.iconst 0, 1) := by decide +kernel
theorem dX4_ofArcher_8 : decode cX4_ofArcher 8 = .ok (.bipush 10, 2) := by decide +kernel
theorem dX4_ofArcher_10 : decode cX4_ofArcher 10 = .ok (.invokestatic 47, 3) := by decide +kernel
theorem dX4_ofArcher_13 : decode cX4_ofArcher 13 = .ok (.iload_n 2, 1) := by decide +kernel
theorem dX4_ofArcher_14 : decode cX4_ofArcher 14 = .ok (.tableswitch 104 0 9 #[54, 59, 64, 69, 74, 79, 84, 89, 94, 99], 54) := by decide +kernel
theorem dX4_ofArcher_68 : decode cX4_ofArcher 68 = .ok (.aload_n 3, 1) := by decide +kernel
theorem dX4_ofArcher_69 : decode cX4_ofArcher 69 = .ok (.getfield 61, 3) := by decide +kernel
theorem dX4_ofArcher_72 : decode cX4_ofArcher 72 = .ok (.ireturn, 1) := by decide +kernel
theorem dX4_ofArcher_73 : decode cX4_ofArcher 73 = .ok (.aload_n 3, 1) := by decide +kernel
theorem dX4_ofArcher_74 : decode cX4_ofArcher 74 = .ok (.getfield 64, 3) := by decide +kernel
theorem dX4_ofArcher_77 : decode cX4_ofArcher 77 = .ok (.ireturn, 1) := by decide +kernel
theorem dX4_ofArcher_78 : decode cX4_ofArcher 78 = .ok (.aload_n 3, 1) := by decide +kernel
theorem dX4_ofArcher_79 : decode cX4_ofArcher 79 = .ok (.getfield 99, 3) := by decide +kernel
theorem dX4_ofArcher_82 : decode cX4_ofArcher 82 = .ok (.ireturn, 1) := by decide +kernel
theorem dX4_ofArcher_83 : decode cX4_ofArcher 83 = .ok (.aload_n 3, 1) := by decide +kernel
theorem dX4_ofArcher_84 : decode cX4_ofArcher 84 = .ok (.getfield 102, 3) := by decide +kernel
theorem dX4_ofArcher_87 : decode cX4_ofArcher 87 = .ok (.ireturn, 1) := by decide +kernel
theorem dX4_ofArcher_88 : decode cX4_ofArcher 88 = .ok (.aload_n 3, 1) := by decide +kernel
theorem dX4_ofArcher_89 : decode cX4_ofArcher 89 = .ok (.getfield 96, 3) := by decide +kernel
theorem dX4_ofArcher_92 : decode cX4_ofArcher 92 = .ok (.ireturn, 1) := by decide +kernel
theorem dX4_ofArcher_93 : decode cX4_ofArcher 93 = .ok (.aload_n 3, 1) := by decide +kernel
theorem dX4_ofArcher_94 : decode cX4_ofArcher 94 = .ok (.getfield 201, 3) := by decide +kernel
theorem dX4_ofArcher_97 : decode cX4_ofArcher 97 = .ok (.ireturn, 1) := by decide +kernel
theorem dX4_ofArcher_98 : decode cX4_ofArcher 98 = .ok (.aload_n 3, 1) := by decide +kernel
theorem dX4_ofArcher_99 : decode cX4_ofArcher 99 = .ok (.getfield 204, 3) := by decide +kernel
theorem dX4_ofArcher_102 : decode cX4_ofArcher 102 = .ok (.ireturn, 1) := by decide +kernel
theorem dX4_ofArcher_103 : decode cX4_ofArcher 103 = .ok (.aload_n 3, 1) := by decide +kernel
theorem dX4_ofArcher_104 : decode cX4_ofArcher 104 = .ok (.getfield 207, 3) := by decide +kernel
theorem dX4_ofArcher_107 : decode cX4_ofArcher 107 = .ok (.ireturn, 1) := by decide +kernel
theorem dX4_ofArcher_108 : decode cX4_ofArcher 108 = .ok (.aload_n 3, 1) := by decide +kernel
theorem dX4_ofArcher_109 : decode cX4_ofArcher 109 = .ok (.getfield 210, 3) := by decide +kernel
theorem dX4_ofArcher_112 : decode cX4_ofArcher 112 = .ok (.ireturn, 1) := by decide +kernel
theorem dX4_ofArcher_113 : decode cX4_ofArcher 113 = .ok (.aload_n 3, 1) := by decide +kernel
theorem dX4_ofArcher_114 : decode cX4_ofArcher 114 = .ok (.getfield 213, 3) := by decide +kernel
theorem dX4_ofArcher_117 : decode cX4_ofArcher 117 = .ok (.ireturn, 1) := by decide +kernel
theorem dX4_ofArcher_118 : decode cX4_ofArcher 118 = .ok (.aload_n 3, 1) := by decide +kernel
theorem dX4_ofArcher_119 : decode cX4_ofArcher 119 = .ok (.getfield 216, 3) := by decide +kernel
theorem dX4_ofArcher_122 : decode cX4_ofArcher 122 = .ok (.ireturn, 1) := by decide +kernel
set_option maxRecDepth 20000 in
theorem ggX4_speed_X4_archerNumbered : GoodIn wsX4_speed wsX4_archerNumbered := goodIn_ca (goodIn_r _ [7, 8, 9, 10, 11, 34, 35, 36, 37, 38, 39, 40, 41, 42, 43, 44, 45, 46, 47, 48, 49] (by decide +kernel) (by decide +kernel)) (goodIn_sub (fun _ h => List.mem_cons_of_mem _ (List.mem_append_right _ h)) (by decide +kernel))
set_option maxRecDepth 20000 in
theorem gX4_speed_X4_archerNumbered : GoodIn wsX4_speed (wsV RX4 78 RX4 yX4_archerNumbered wsX4_archerNumbered) := goodIn_app (goodIn_of _ (by decide +kernel)) ggX4_speed_X4_archerNumbered
set_option maxRecDepth 20000 in
theorem ggX4_speed_X0_speedWith : GoodIn wsX4_speed wsX0_speedWith := goodIn_r _ [16, 17, 18, 19, 20, 21, 22, 23, 24, 25, 26, 27, 28, 29, 30, 31, 32, 33, 50, 51, 52, 53, 54] (by decide +kernel) (by decide +kernel)
set_option maxRecDepth 20000 in
theorem gX4_speed_X0_speedWith : GoodIn wsX4_speed (wsV RX4 219 RX0 yX0_speedWith wsX0_speedWith) := goodIn_app (goodIn_of _ (by decide +kernel)) ggX4_speed_X0_speedWith
theorem dX4_speed_0 : decode cX4_speed 0 = .ok (.aload_n 0, 1) := by decide +kernel
theorem dX4_speed_1 : decode cX4_speed 1 = .ok (.iload_n 1, 1) := by decide +kernel
theorem dX4_speed_2 : decode cX4_speed 2 = .ok (.invokevirtual 78, 3) := by decide +kernel
theorem dX4_speed_5 : decode cX4_speed 5 = .ok (.astore_n 2, 1) := by decide +kernel
theorem dX4_speed_6 : decode cX4_speed 6 = .ok (.aload_n 2, 1) := by decide +kernel
theorem dX4_speed_7 : decode cX4_speed 7 = .ok (.getfield 96, 3) := by decide +kernel
theorem dX4_speed_10 : decode cX4_speed 10 = .ok (.iconst (-1), 1) := by decide +kernel
theorem dX4_speed_11 : decode cX4_speed 11 = .ok (.if_icmp .ne 5, 3) := by decide +kernel
theorem dX4_speed_14 : decode cX4_speed 14 = .ok (.dconst 0, 1) := by decide +kernel
theorem dX4_speed_15 : decode cX4_speed 15 = .ok (.dreturn, 1) := by decide +kernel
theorem dX4_speed_16 : decode cX4_speed 16 = .ok (.aload_n 2, 1) := by decide +kernel
theorem dX4_speed_17 : decode cX4_speed 17 = .ok (.aload_n 0, 1) := by decide +kernel
theorem dX4_speed_18 : decode cX4_speed 18 = .ok (.getfield 17, 3) := by decide +kernel
theorem dX4_speed_21 : decode cX4_speed 21 = .ok (.aload_n 2, 1) := by decide +kernel
theorem dX4_speed_22 : decode cX4_speed 22 = .ok (.getfield 96, 3) := by decide +kernel
theorem dX4_speed_25 : decode cX4_speed 25 = .ok (.aaload, 1) := by decide +kernel
theorem dX4_speed_26 : decode cX4_speed 26 = .ok (.invokevirtual 219, 3) := by decide +kernel
theorem dX4_speed_29 : decode cX4_speed 29 = .ok (.dreturn, 1) := by decide +kernel
set_option maxRecDepth 20000 in
theorem ggX4_ofQuiver_X4_needQuiver : GoodIn wsX4_ofQuiver wsX4_needQuiver := goodIn_ca (goodIn_r _ [8, 9, 10, 11, 30, 31, 32, 33, 34, 35, 36, 37, 38, 39, 40, 41, 42, 43, 44, 45] (by decide +kernel) (by decide +kernel)) (goodIn_sub (fun _ h => List.mem_cons_of_mem _ (List.mem_append_left _ (List.mem_append_right _ h))) (by decide +kernel))
set_option maxRecDepth 20000 in
theorem gX4_ofQuiver_X4_needQuiver : GoodIn wsX4_ofQuiver (wsV RX4 82 RX4 yX4_needQuiver wsX4_needQuiver) := goodIn_app (goodIn_of _ (by decide +kernel)) ggX4_ofQuiver_X4_needQuiver
set_option maxRecDepth 20000 in
theorem ggX4_ofQuiver_X4_needBetween : GoodIn wsX4_ofQuiver wsX4_needBetween := goodIn_ca (goodIn_r _ [14, 15, 16] (by decide +kernel) (by decide +kernel)) (goodIn_sub (fun _ h => List.mem_cons_of_mem _ (List.mem_append_right _ h)) (by decide +kernel))
set_option maxRecDepth 20000 in
theorem gX4_ofQuiver_X4_needBetween : GoodIn wsX4_ofQuiver (va_wsS RX4 47 yX4_needBetween wsX4_needBetween) := goodIn_app (goodIn_of _ (by decide +kernel)) ggX4_ofQuiver_X4_needBetween
set_option maxRecDepth 20000 in
theorem ggX4_ofQuiver_X4_holderOf : GoodIn wsX4_ofQuiver wsX4_holderOf := goodIn_r _ [20, 21, 22, 23, 30, 31, 32, 33, 34, 35, 36, 37, 38, 39, 40, 41, 42, 43, 44, 45, 51, 52, 53, 54, 55, 56, 57, 58, 59, 60, 61, 62] (by decide +kernel) (by decide +kernel)
set_option maxRecDepth 20000 in
theorem gX4_ofQuiver_X4_holderOf : GoodIn wsX4_ofQuiver (wsV RX4 92 RX4 yX4_holderOf wsX4_holderOf) := goodIn_app (goodIn_of _ (by decide +kernel)) ggX4_ofQuiver_X4_holderOf
set_option maxRecDepth 20000 in
theorem ggX4_ofQuiver_X3_setOf : GoodIn wsX4_ofQuiver wsX3_setOf := goodIn_r _ [28, 29, 46, 47, 48, 49, 50] (by decide +kernel) (by decide +kernel)
set_option maxRecDepth 20000 in
theorem gX4_ofQuiver_X3_setOf : GoodIn wsX4_ofQuiver (wsV RX4 223 RX3 yX3_setOf wsX3_setOf) := goodIn_app (goodIn_of _ (by decide +kernel)) ggX4_ofQuiver_X3_setOf
theorem dX4_ofQuiver_0 : decode cX4_ofQuiver 0 = .ok (.aload_n 0, 1) := by decide +kernel
theorem dX4_ofQuiver_1 : decode cX4_ofQuiver 1 = .ok (.iload_n 1, 1) := by decide +kernel
theorem dX4_ofQuiver_2 : decode cX4_ofQuiver 2 = .ok (.invokevirtual 82, 3) := by decide +kernel
theorem dX4_ofQuiver_5 : decode cX4_ofQuiver 5 = .ok (.iload_n 2, 1) := by decide +kernel
theorem dX4_ofQuiver_6 : decode cX4_ofQuiver 6 = .ok (.iconst 0, 1) := by decide +kernel
theorem dX4_ofQuiver_7 : decode cX4_ofQuiver 7 = .ok (.bipush 6, 2) := by decide +kernel
theorem dX4_ofQuiver_9 : decode cX4_ofQuiver 9 = .ok (.invokestatic 47, 3) := by decide +kernel
theorem dX4_ofQuiver_12 : decode cX4_ofQuiver 12 = .ok (.iload_n 2, 1) := by decide +kernel
theorem dX4_ofQuiver_13 : decode cX4_ofQuiver 13 = .ok (.tableswitch 98 0 5 #[39, 49, 59, 65, 76, 87], 39) := by decide +kernel
theorem dX4_ofQuiver_52 : decode cX4_ofQuiver 52 = .ok (.aload_n 0, 1) := by decide +kernel
theorem dX4_ofQuiver_53 : decode cX4_ofQuiver 53 = .ok (.getfield 17, 3) := by decide +kernel
theorem dX4_ofQuiver_56 : decode cX4_ofQuiver 56 = .ok (.iload_n 1, 1) := by decide +kernel
theorem dX4_ofQuiver_57 : decode cX4_ofQuiver 57 = .ok (.aaload, 1) := by decide +kernel
theorem dX4_ofQuiver_58 : decode cX4_ofQuiver 58 = .ok (.getfield 72, 3) := by decide +kernel
theorem dX4_ofQuiver_61 : decode cX4_ofQuiver 61 = .ok (.ireturn, 1) := by decide +kernel
theorem dX4_ofQuiver_62 : decode cX4_ofQuiver 62 = .ok (.aload_n 0, 1) := by decide +kernel
theorem dX4_ofQuiver_63 : decode cX4_ofQuiver 63 = .ok (.getfield 17, 3) := by decide +kernel
theorem dX4_ofQuiver_66 : decode cX4_ofQuiver 66 = .ok (.iload_n 1, 1) := by decide +kernel
theorem dX4_ofQuiver_67 : decode cX4_ofQuiver 67 = .ok (.aaload, 1) := by decide +kernel
theorem dX4_ofQuiver_68 : decode cX4_ofQuiver 68 = .ok (.getfield 75, 3) := by decide +kernel
theorem dX4_ofQuiver_71 : decode cX4_ofQuiver 71 = .ok (.ireturn, 1) := by decide +kernel
theorem dX4_ofQuiver_72 : decode cX4_ofQuiver 72 = .ok (.aload_n 0, 1) := by decide +kernel
theorem dX4_ofQuiver_73 : decode cX4_ofQuiver 73 = .ok (.iload_n 1, 1) := by decide +kernel
theorem dX4_ofQuiver_74 : decode cX4_ofQuiver 74 = .ok (.invokevirtual 92, 3) := by decide +kernel
theorem dX4_ofQuiver_77 : decode cX4_ofQuiver 77 = .ok (.ireturn, 1) := by decide +kernel
theorem dX4_ofQuiver_78 : decode cX4_ofQuiver 78 = .ok (.aload_n 0, 1) := by decide +kernel
theorem dX4_ofQuiver_79 : decode cX4_ofQuiver 79 = .ok (.getfield 17, 3) := by decide +kernel
theorem dX4_ofQuiver_82 : decode cX4_ofQuiver 82 = .ok (.iload_n 1, 1) := by decide +kernel
theorem dX4_ofQuiver_83 : decode cX4_ofQuiver 83 = .ok (.aaload, 1) := by decide +kernel
theorem dX4_ofQuiver_84 : decode cX4_ofQuiver 84 = .ok (.iconst 0, 1) := by decide +kernel
theorem dX4_ofQuiver_85 : decode cX4_ofQuiver 85 = .ok (.invokevirtual 223, 3) := by decide +kernel
theorem dX4_ofQuiver_88 : decode cX4_ofQuiver 88 = .ok (.ireturn, 1) := by decide +kernel
theorem dX4_ofQuiver_89 : decode cX4_ofQuiver 89 = .ok (.aload_n 0, 1) := by decide +kernel
theorem dX4_ofQuiver_90 : decode cX4_ofQuiver 90 = .ok (.getfield 17, 3) := by decide +kernel
theorem dX4_ofQuiver_93 : decode cX4_ofQuiver 93 = .ok (.iload_n 1, 1) := by decide +kernel
theorem dX4_ofQuiver_94 : decode cX4_ofQuiver 94 = .ok (.aaload, 1) := by decide +kernel
theorem dX4_ofQuiver_95 : decode cX4_ofQuiver 95 = .ok (.iconst 1, 1) := by decide +kernel
theorem dX4_ofQuiver_96 : decode cX4_ofQuiver 96 = .ok (.invokevirtual 223, 3) := by decide +kernel
theorem dX4_ofQuiver_99 : decode cX4_ofQuiver 99 = .ok (.ireturn, 1) := by decide +kernel
theorem dX4_ofQuiver_100 : decode cX4_ofQuiver 100 = .ok (.aload_n 0, 1) := by decide +kernel
theorem dX4_ofQuiver_101 : decode cX4_ofQuiver 101 = .ok (.getfield 17, 3) := by decide +kernel
theorem dX4_ofQuiver_104 : decode cX4_ofQuiver 104 = .ok (.iload_n 1, 1) := by decide +kernel
theorem dX4_ofQuiver_105 : decode cX4_ofQuiver 105 = .ok (.aaload, 1) := by decide +kernel
theorem dX4_ofQuiver_106 : decode cX4_ofQuiver 106 = .ok (.iconst 2, 1) := by decide +kernel
theorem dX4_ofQuiver_107 : decode cX4_ofQuiver 107 = .ok (.invokevirtual 223, 3) := by decide +kernel
theorem dX4_ofQuiver_110 : decode cX4_ofQuiver 110 = .ok (.ireturn, 1) := by decide +kernel
theorem dX4_ofQuiver_111 : decode cX4_ofQuiver 111 = .ok (.aload_n 0, 1) := by decide +kernel
theorem dX4_ofQuiver_112 : decode cX4_ofQuiver 112 = .ok (.getfield 17, 3) := by decide +kernel
theorem dX4_ofQuiver_115 : decode cX4_ofQuiver 115 = .ok (.iload_n 1, 1) := by decide +kernel
theorem dX4_ofQuiver_116 : decode cX4_ofQuiver 116 = .ok (.aaload, 1) := by decide +kernel
theorem dX4_ofQuiver_117 : decode cX4_ofQuiver 117 = .ok (.iconst 3, 1) := by decide +kernel
theorem dX4_ofQuiver_118 : decode cX4_ofQuiver 118 = .ok (.invokevirtual 223, 3) := by decide +kernel
theorem dX4_ofQuiver_121 : decode cX4_ofQuiver 121 = .ok (.ireturn, 1) := by decide +kernel
set_option maxRecDepth 20000 in
theorem ggX4_hit_X4_needQuiver : GoodIn wsX4_hit wsX4_needQuiver := goodIn_ca (goodIn_r _ [8, 9, 10, 11, 15, 16, 17, 18, 19, 20, 21, 22, 23, 24, 25, 26, 27, 28, 29, 30] (by decide +kernel) (by decide +kernel)) (goodIn_sub (fun _ h => List.mem_cons_of_mem _ (List.mem_append_right _ h)) (by decide +kernel))
set_option maxRecDepth 20000 in
theorem gX4_hit_X4_needQuiver : GoodIn wsX4_hit (wsV RX4 82 RX4 yX4_needQuiver wsX4_needQuiver) := goodIn_app (goodIn_of _ (by decide +kernel)) ggX4_hit_X4_needQuiver
set_option maxRecDepth 20000 in
theorem ggX4_hit_X4_needArrow : GoodIn wsX4_hit wsX4_needArrow := goodIn_ca (goodIn_r _ [14, 9, 10] (by decide +kernel) (by decide +kernel)) (goodIn_sub (fun _ h => List.mem_cons_of_mem _ (List.mem_append_right _ h)) (by decide +kernel))
set_option maxRecDepth 20000 in
theorem gX4_hit_X4_needArrow : GoodIn wsX4_hit (va_wsS RX4 118 yX4_needArrow wsX4_needArrow) := goodIn_app (goodIn_of _ (by decide +kernel)) ggX4_hit_X4_needArrow
theorem dX4_hit_0 : decode cX4_hit 0 = .ok (.aload_n 0, 1) := by decide +kernel
theorem dX4_hit_1 : decode cX4_hit 1 = .ok (.iload_n 1, 1) := by decide +kernel
theorem dX4_hit_2 : decode cX4_hit 2 = .ok (.invokevirtual 82, 3) := by decide +kernel
theorem dX4_hit_5 : decode cX4_hit 5 = .ok (.iload_n 2, 1) := by decide +kernel
theorem dX4_hit_6 : decode cX4_hit 6 = .ok (.invokestatic 118, 3) := by decide +kernel
theorem dX4_hit_9 : decode cX4_hit 9 = .ok (.iload_n 3, 1) := by decide +kernel
theorem dX4_hit_10 : decode cX4_hit 10 = .ok (.ifCond .eq 17, 3) := by decide +kernel
theorem dX4_hit_13 : decode cX4_hit 13 = .ok (.aload_n 0, 1) := by decide +kernel
theorem dX4_hit_14 : decode cX4_hit 14 = .ok (.getfield 17, 3) := by decide +kernel
theorem dX4_hit_17 : decode cX4_hit 17 = .ok (.iload_n 1, 1) := by decide +kernel
theorem dX4_hit_18 : decode cX4_hit 18 = .ok (.aaload, 1) := by decide +kernel
theorem dX4_hit_19 : decode cX4_hit 19 = .ok (.getfield 226, 3) := by decide +kernel
theorem dX4_hit_22 : decode cX4_hit 22 = .ok (.iload_n 2, 1) := by decide +kernel
theorem dX4_hit_23 : decode cX4_hit 23 = .ok (.daload, 1) := by decide +kernel
theorem dX4_hit_24 : decode cX4_hit 24 = .ok (.goto 14, 3) := by decide +kernel
theorem dX4_hit_27 : decode cX4_hit 27 = .ok (.aload_n 0, 1) := by decide +kernel
theorem dX4_hit_28 : decode cX4_hit 28 = .ok (.getfield 17, 3) := by decide +kernel
theorem dX4_hit_31 : decode cX4_hit 31 = .ok (.iload_n 1, 1) := by decide +kernel
theorem dX4_hit_32 : decode cX4_hit 32 = .ok (.aaload, 1) := by decide +kernel
theorem dX4_hit_33 : decode cX4_hit 33 = .ok (.getfield 230, 3) := by decide +kernel
theorem dX4_hit_36 : decode cX4_hit 36 = .ok (.iload_n 2, 1) := by decide +kernel
theorem dX4_hit_37 : decode cX4_hit 37 = .ok (.daload, 1) := by decide +kernel
theorem dX4_hit_38 : decode cX4_hit 38 = .ok (.dreturn, 1) := by decide +kernel
set_option maxRecDepth 20000 in
theorem ggX4_many_X4_needBetween : GoodIn wsX4_many wsX4_needBetween := goodIn_ca (goodIn_r _ [15, 16, 17] (by decide +kernel) (by decide +kernel)) (goodIn_sub (fun _ h => List.mem_cons_of_mem _ (List.mem_append_right _ h)) (by decide +kernel))
set_option maxRecDepth 20000 in
theorem gX4_many_X4_needBetween : GoodIn wsX4_many (va_wsS RX4 47 yX4_needBetween wsX4_needBetween) := goodIn_app (goodIn_of _ (by decide +kernel)) ggX4_many_X4_needBetween
set_option maxRecDepth 20000 in
theorem ggX4_many_X4_stuckArrows : GoodIn wsX4_many wsX4_stuckArrows := goodIn_r _ [21, 2, 22, 23, 24, 25, 26, 27, 28, 29, 30, 31, 32, 33, 34, 35, 36, 37, 38, 39, 40, 41, 42, 43, 44, 45, 46, 47, 48, 49, 50, 51, 52, 53, 54, 55, 56] (by decide +kernel) (by decide +kernel)
set_option maxRecDepth 20000 in
theorem gX4_many_X4_stuckArrows : GoodIn wsX4_many (wsV RX4 109 RX4 yX4_stuckArrows wsX4_stuckArrows) := goodIn_app (goodIn_of _ (by decide +kernel)) ggX4_many_X4_stuckArrows
theorem dX4_many_0 : decode cX4_many 0 = .ok (.iload_n 1, 1) := by decide +kernel
theorem dX4_many_1 : decode cX4_many 1 = .ok (.iconst 0, 1) := by decide +kernel
theorem dX4_many_2 : decode cX4_many 2 = .ok (.bipush 11, 2) := by decide +kernel
theorem dX4_many_4 : decode cX4_many 4 = .ok (.invokestatic 47, 3) := by decide +kernel
theorem dX4_many_7 : decode cX4_many 7 = .ok (.iload_n 1, 1) := by decide +kernel
theorem dX4_many_8 : decode cX4_many 8 = .ok (.tableswitch 123 0 10 #[60, 65, 70, 75, 80, 85, 90, 95, 100, 105, 110], 60) := by decide +kernel
theorem dX4_many_68 : decode cX4_many 68 = .ok (.aload_n 0, 1) := by decide +kernel
theorem dX4_many_69 : decode cX4_many 69 = .ok (.getfield 51, 3) := by decide +kernel
theorem dX4_many_72 : decode cX4_many 72 = .ok (.ireturn, 1) := by decide +kernel
theorem dX4_many_73 : decode cX4_many 73 = .ok (.aload_n 0, 1) := by decide +kernel
theorem dX4_many_74 : decode cX4_many 74 = .ok (.getfield 67, 3) := by decide +kernel
theorem dX4_many_77 : decode cX4_many 77 = .ok (.ireturn, 1) := by decide +kernel
theorem dX4_many_78 : decode cX4_many 78 = .ok (.aload_n 0, 1) := by decide +kernel
theorem dX4_many_79 : decode cX4_many 79 = .ok (.getfield 21, 3) := by decide +kernel
theorem dX4_many_82 : decode cX4_many 82 = .ok (.ireturn, 1) := by decide +kernel
theorem dX4_many_83 : decode cX4_many 83 = .ok (.aload_n 0, 1) := by decide +kernel
theorem dX4_many_84 : decode cX4_many 84 = .ok (.getfield 115, 3) := by decide +kernel
theorem dX4_many_87 : decode cX4_many 87 = .ok (.ireturn, 1) := by decide +kernel
theorem dX4_many_88 : decode cX4_many 88 = .ok (.aload_n 0, 1) := by decide +kernel
theorem dX4_many_89 : decode cX4_many 89 = .ok (.getfield 25, 3) := by decide +kernel
theorem dX4_many_92 : decode cX4_many 92 = .ok (.ireturn, 1) := by decide +kernel
theorem dX4_many_93 : decode cX4_many 93 = .ok (.aload_n 0, 1) := by decide +kernel
theorem dX4_many_94 : decode cX4_many 94 = .ok (.invokevirtual 109, 3) := by decide +kernel
theorem dX4_many_97 : decode cX4_many 97 = .ok (.ireturn, 1) := by decide +kernel
theorem dX4_many_98 : decode cX4_many 98 = .ok (.aload_n 0, 1) := by decide +kernel
theorem dX4_many_99 : decode cX4_many 99 = .ok (.getfield 164, 3) := by decide +kernel
theorem dX4_many_102 : decode cX4_many 102 = .ok (.ireturn, 1) := by decide +kernel
theorem dX4_many_103 : decode cX4_many 103 = .ok (.aload_n 0, 1) := by decide +kernel
theorem dX4_many_104 : decode cX4_many 104 = .ok (.getfield 233, 3) := by decide +kernel
theorem dX4_many_107 : decode cX4_many 107 = .ok (.ireturn, 1) := by decide +kernel
theorem dX4_many_108 : decode cX4_many 108 = .ok (.aload_n 0, 1) := by decide +kernel
theorem dX4_many_109 : decode cX4_many 109 = .ok (.getfield 145, 3) := by decide +kernel
theorem dX4_many_112 : decode cX4_many 112 = .ok (.ireturn, 1) := by decide +kernel
theorem dX4_many_113 : decode cX4_many 113 = .ok (.aload_n 0, 1) := by decide +kernel
theorem dX4_many_114 : decode cX4_many 114 = .ok (.getfield 187, 3) := by decide +kernel
theorem dX4_many_117 : decode cX4_many 117 = .ok (.ireturn, 1) := by decide +kernel
theorem dX4_many_118 : decode cX4_many 118 = .ok (.aload_n 0, 1) := by decide +kernel
theorem dX4_many_119 : decode cX4_many 119 = .ok (.getfield 121, 3) := by decide +kernel
theorem dX4_many_122 : decode cX4_many 122 = .ok (.ifCond .eq 7, 3) := by decide +kernel
theorem dX4_many_125 : decode cX4_many 125 = .ok (.iconst 1, 1) := by decide +kernel
theorem dX4_many_126 : decode cX4_many 126 = .ok (.goto 4, 3) := by decide +kernel
theorem dX4_many_129 : decode cX4_many 129 = .ok (.iconst 0, 1) := by decide +kernel
theorem dX4_many_130 : decode cX4_many 130 = .ok (.ireturn, 1) := by decide +kernel
theorem dX4_many_131 : decode cX4_many 131 = .ok (.aload_n 0, 1) := by decide +kernel
theorem dX4_many_132 : decode cX4_many 132 = .ok (.getfield 198, 3) := by decide +kernel
theorem dX4_many_135 : decode cX4_many 135 = .ok (.ireturn, 1) := by decide +kernel
set_option maxRecDepth 20000 in
theorem ggX4_ofMatch_X4_needBetween : GoodIn wsX4_ofMatch wsX4_needBetween := goodIn_ca (goodIn_r _ [13, 14, 15] (by decide +kernel) (by decide +kernel)) (goodIn_sub (fun _ h => List.mem_cons_of_mem _ (List.mem_append_right _ h)) (by decide +kernel))
set_option maxRecDepth 20000 in
theorem gX4_ofMatch_X4_needBetween : GoodIn wsX4_ofMatch (va_wsS RX4 47 yX4_needBetween wsX4_needBetween) := goodIn_app (goodIn_of _ (by decide +kernel)) ggX4_ofMatch_X4_needBetween
set_option maxRecDepth 20000 in
theorem ggX4_ofMatch_X2_turn : GoodIn wsX4_ofMatch wsX2_turn := goodIn_r _ [20, 21, 22, 23, 24, 25, 19, 26, 27, 44, 45, 46, 47, 48, 49, 50, 51, 52, 53] (by decide +kernel) (by decide +kernel)
set_option maxRecDepth 20000 in
theorem gX4_ofMatch_X2_turn : GoodIn wsX4_ofMatch (wsV RX4 136 RX2 yX2_turn wsX2_turn) := goodIn_app (goodIn_of _ (by decide +kernel)) ggX4_ofMatch_X2_turn
theorem dX4_ofMatch_0 : decode cX4_ofMatch 0 = .ok (.iload_n 1, 1) := by decide +kernel
theorem dX4_ofMatch_1 : decode cX4_ofMatch 1 = .ok (.iconst 0, 1) := by decide +kernel
theorem dX4_ofMatch_2 : decode cX4_ofMatch 2 = .ok (.bipush 7, 2) := by decide +kernel
theorem dX4_ofMatch_4 : decode cX4_ofMatch 4 = .ok (.invokestatic 47, 3) := by decide +kernel
theorem dX4_ofMatch_7 : decode cX4_ofMatch 7 = .ok (.aload_n 0, 1) := by decide +kernel
theorem dX4_ofMatch_8 : decode cX4_ofMatch 8 = .ok (.getfield 31, 3) := by decide +kernel
theorem dX4_ofMatch_11 : decode cX4_ofMatch 11 = .ok (.getfield 86, 3) := by decide +kernel
theorem dX4_ofMatch_14 : decode cX4_ofMatch 14 = .ok (.ifCond .ne 5, 3) := by decide +kernel
theorem dX4_ofMatch_17 : decode cX4_ofMatch 17 = .ok (.iconst (-1), 1) := by decide +kernel
theorem dX4_ofMatch_18 : decode cX4_ofMatch 18 = .ok (.ireturn, 1) := by decide +kernel
theorem dX4_ofMatch_19 : decode cX4_ofMatch 19 = .ok (.iload_n 1, 1) := by decide +kernel
theorem dX4_ofMatch_20 : decode cX4_ofMatch 20 = .ok (.tableswitch 100 0 6 #[44, 52, 60, 68, 76, 84, 92], 44) := by decide +kernel
theorem dX4_ofMatch_64 : decode cX4_ofMatch 64 = .ok (.aload_n 0, 1) := by decide +kernel
theorem dX4_ofMatch_65 : decode cX4_ofMatch 65 = .ok (.getfield 31, 3) := by decide +kernel
theorem dX4_ofMatch_68 : decode cX4_ofMatch 68 = .ok (.getfield 236, 3) := by decide +kernel
theorem dX4_ofMatch_71 : decode cX4_ofMatch 71 = .ok (.ireturn, 1) := by decide +kernel
theorem dX4_ofMatch_72 : decode cX4_ofMatch 72 = .ok (.aload_n 0, 1) := by decide +kernel
theorem dX4_ofMatch_73 : decode cX4_ofMatch 73 = .ok (.getfield 31, 3) := by decide +kernel
theorem dX4_ofMatch_76 : decode cX4_ofMatch 76 = .ok (.getfield 239, 3) := by decide +kernel
theorem dX4_ofMatch_79 : decode cX4_ofMatch 79 = .ok (.ireturn, 1) := by decide +kernel
theorem dX4_ofMatch_80 : decode cX4_ofMatch 80 = .ok (.aload_n 0, 1) := by decide +kernel
theorem dX4_ofMatch_81 : decode cX4_ofMatch 81 = .ok (.getfield 31, 3) := by decide +kernel
theorem dX4_ofMatch_84 : decode cX4_ofMatch 84 = .ok (.getfield 192, 3) := by decide +kernel
theorem dX4_ofMatch_87 : decode cX4_ofMatch 87 = .ok (.ireturn, 1) := by decide +kernel
theorem dX4_ofMatch_88 : decode cX4_ofMatch 88 = .ok (.aload_n 0, 1) := by decide +kernel
theorem dX4_ofMatch_89 : decode cX4_ofMatch 89 = .ok (.getfield 31, 3) := by decide +kernel
theorem dX4_ofMatch_92 : decode cX4_ofMatch 92 = .ok (.getfield 195, 3) := by decide +kernel
theorem dX4_ofMatch_95 : decode cX4_ofMatch 95 = .ok (.ireturn, 1) := by decide +kernel
theorem dX4_ofMatch_96 : decode cX4_ofMatch 96 = .ok (.aload_n 0, 1) := by decide +kernel
theorem dX4_ofMatch_97 : decode cX4_ofMatch 97 = .ok (.getfield 31, 3) := by decide +kernel
theorem dX4_ofMatch_100 : decode cX4_ofMatch 100 = .ok (.getfield 242, 3) := by decide +kernel
theorem dX4_ofMatch_103 : decode cX4_ofMatch 103 = .ok (.ireturn, 1) := by decide +kernel
theorem dX4_ofMatch_104 : decode cX4_ofMatch 104 = .ok (.aload_n 0, 1) := by decide +kernel
theorem dX4_ofMatch_105 : decode cX4_ofMatch 105 = .ok (.getfield 31, 3) := by decide +kernel
theorem dX4_ofMatch_108 : decode cX4_ofMatch 108 = .ok (.getfield 245, 3) := by decide +kernel
theorem dX4_ofMatch_111 : decode cX4_ofMatch 111 = .ok (.ireturn, 1) := by decide +kernel
theorem dX4_ofMatch_112 : decode cX4_ofMatch 112 = .ok (.aload_n 0, 1) := by decide +kernel
theorem dX4_ofMatch_113 : decode cX4_ofMatch 113 = .ok (.getfield 31, 3) := by decide +kernel
theorem dX4_ofMatch_116 : decode cX4_ofMatch 116 = .ok (.invokevirtual 136, 3) := by decide +kernel
theorem dX4_ofMatch_119 : decode cX4_ofMatch 119 = .ok (.ireturn, 1) := by decide +kernel
theorem dX4_ofMatch_120 : decode cX4_ofMatch 120 = .ok (.aload_n 0, 1) := by decide +kernel
theorem dX4_ofMatch_121 : decode cX4_ofMatch 121 = .ok (.getfield 31, 3) := by decide +kernel
theorem dX4_ofMatch_124 : decode cX4_ofMatch 124 = .ok (.getfield 248, 3) := by decide +kernel
theorem dX4_ofMatch_127 : decode cX4_ofMatch 127 = .ok (.ifCond .eq 7, 3) := by decide +kernel
theorem dX4_ofMatch_130 : decode cX4_ofMatch 130 = .ok (.iconst 1, 1) := by decide +kernel
theorem dX4_ofMatch_131 : decode cX4_ofMatch 131 = .ok (.goto 4, 3) := by decide +kernel
theorem dX4_ofMatch_134 : decode cX4_ofMatch 134 = .ok (.iconst 0, 1) := by decide +kernel
theorem dX4_ofMatch_135 : decode cX4_ofMatch 135 = .ok (.ireturn, 1) := by decide +kernel
theorem dX4_winner_0 : decode cX4_winner 0 = .ok (.aload_n 0, 1) := by decide +kernel
theorem dX4_winner_1 : decode cX4_winner 1 = .ok (.getfield 35, 3) := by decide +kernel
theorem dX4_winner_4 : decode cX4_winner 4 = .ok (.ireturn, 1) := by decide +kernel
set_option maxRecDepth 20000 in
theorem ggX4_wouldHit_X4_archerNumbered : GoodIn wsX4_wouldHit wsX4_archerNumbered := goodIn_ca (goodIn_r _ [10, 11, 12, 13, 14, 54, 55, 56, 57, 58, 59, 60, 61, 62, 63, 64, 65, 66, 67, 68, 69] (by decide +kernel) (by decide +kernel)) (goodIn_sub (fun _ h => List.mem_cons_of_mem _ (List.mem_append_left _ (List.mem_append_left _ (List.mem_append_right _ h)))) (by decide +kernel))
set_option maxRecDepth 20000 in
theorem gX4_wouldHit_X4_archerNumbered : GoodIn wsX4_wouldHit (wsV RX4 78 RX4 yX4_archerNumbered wsX4_archerNumbered) := goodIn_app (goodIn_of _ (by decide +kernel)) ggX4_wouldHit_X4_archerNumbered
set_option maxRecDepth 20000 in
theorem ggX4_wouldHit_X4_needBetween : GoodIn wsX4_wouldHit wsX4_needBetween := goodIn_ca (goodIn_r _ [17, 18, 19] (by decide +kernel) (by decide +kernel)) (goodIn_sub (fun _ h => List.mem_cons_of_mem _ (List.mem_append_left _ (List.mem_append_right _ h))) (by decide +kernel))
set_option maxRecDepth 20000 in
theorem gX4_wouldHit_X4_needBetween : GoodIn wsX4_wouldHit (va_wsS RX4 47 yX4_needBetween wsX4_needBetween) := goodIn_app (goodIn_of _ (by decide +kernel)) ggX4_wouldHit_X4_needBetween
set_option maxRecDepth 20000 in
theorem ggX4_wouldHit_X4_quiverOf : GoodIn wsX4_wouldHit wsX4_quiverOf := goodIn_ca (goodIn_r _ [23, 24, 25, 26, 27, 72, 73, 74, 75, 76, 77, 78, 79, 80, 81, 82, 83, 54, 55, 56, 57, 58, 59, 60, 61, 62, 63, 64, 65, 66, 67, 68, 69] (by decide +kernel) (by decide +kernel)) (goodIn_sub (fun _ h => List.mem_cons_of_mem _ (List.mem_append_right _ h)) (by decide +kernel))
set_option maxRecDepth 20000 in
theorem gX4_wouldHit_X4_quiverOf : GoodIn wsX4_wouldHit (wsV RX4 126 RX4 yX4_quiverOf wsX4_quiverOf) := goodIn_app (goodIn_of _ (by decide +kernel)) ggX4_wouldHit_X4_quiverOf
set_option maxRecDepth 20000 in
theorem ggX4_wouldHit_X1_fly : GoodIn wsX4_wouldHit wsX1_fly := goodIn_r _ [32, 33, 34, 35, 36, 37, 38, 39, 40, 41, 42, 43, 44, 45, 46, 47, 48, 49, 50, 51, 52, 53, 72, 73, 74, 75, 76, 77, 78, 79, 80, 81, 82, 83, 84, 85, 86, 87, 88, 70, 71] (by decide +kernel) (by decide +kernel)
set_option maxRecDepth 20000 in
theorem gX4_wouldHit_X1_fly : GoodIn wsX4_wouldHit (wsV RX4 141 RX1 yX1_fly wsX1_fly) := goodIn_app (goodIn_of _ (by decide +kernel)) ggX4_wouldHit_X1_fly
theorem dX4_wouldHit_0 : decode cX4_wouldHit 0 = .ok (.aload_n 0, 1) := by decide +kernel
theorem dX4_wouldHit_1 : decode cX4_wouldHit 1 = .ok (.iload_n 1, 1) := by decide +kernel
theorem dX4_wouldHit_2 : decode cX4_wouldHit 2 = .ok (.invokevirtual 78, 3) := by decide +kernel
theorem dX4_wouldHit_5 : decode cX4_wouldHit 5 = .ok (.astore 4, 2) := by decide +kernel
theorem dX4_wouldHit_7 : decode cX4_wouldHit 7 = .ok (.iload_n 2, 1) := by decide +kernel
theorem dX4_wouldHit_8 : decode cX4_wouldHit 8 = .ok (.iconst 0, 1) := by decide +kernel
theorem dX4_wouldHit_9 : decode cX4_wouldHit 9 = .ok (.bipush 127, 2) := by decide +kernel
theorem dX4_wouldHit_11 : decode cX4_wouldHit 11 = .ok (.invokestatic 47, 3) := by decide +kernel
theorem dX4_wouldHit_14 : decode cX4_wouldHit 14 = .ok (.aload_n 0, 1) := by decide +kernel
theorem dX4_wouldHit_15 : decode cX4_wouldHit 15 = .ok (.getfield 41, 3) := by decide +kernel
theorem dX4_wouldHit_18 : decode cX4_wouldHit 18 = .ok (.aload 4, 2) := by decide +kernel
theorem dX4_wouldHit_20 : decode cX4_wouldHit 20 = .ok (.aload_n 0, 1) := by decide +kernel
theorem dX4_wouldHit_21 : decode cX4_wouldHit 21 = .ok (.aload 4, 2) := by decide +kernel
theorem dX4_wouldHit_23 : decode cX4_wouldHit 23 = .ok (.invokevirtual 126, 3) := by decide +kernel
theorem dX4_wouldHit_26 : decode cX4_wouldHit 26 = .ok (.iload_n 2, 1) := by decide +kernel
theorem dX4_wouldHit_27 : decode cX4_wouldHit 27 = .ok (.aload_n 0, 1) := by decide +kernel
theorem dX4_wouldHit_28 : decode cX4_wouldHit 28 = .ok (.getfield 21, 3) := by decide +kernel
theorem dX4_wouldHit_31 : decode cX4_wouldHit 31 = .ok (.aload_n 0, 1) := by decide +kernel
theorem dX4_wouldHit_32 : decode cX4_wouldHit 32 = .ok (.getfield 115, 3) := by decide +kernel
theorem dX4_wouldHit_35 : decode cX4_wouldHit 35 = .ok (.invokevirtual 141, 3) := by decide +kernel
theorem dX4_wouldHit_38 : decode cX4_wouldHit 38 = .ok (.iload_n 3, 1) := by decide +kernel
theorem dX4_wouldHit_39 : decode cX4_wouldHit 39 = .ok (.ifCond .eq 13, 3) := by decide +kernel
theorem dX4_wouldHit_42 : decode cX4_wouldHit 42 = .ok (.aload_n 0, 1) := by decide +kernel
theorem dX4_wouldHit_43 : decode cX4_wouldHit 43 = .ok (.getfield 41, 3) := by decide +kernel
theorem dX4_wouldHit_46 : decode cX4_wouldHit 46 = .ok (.getfield 251, 3) := by decide +kernel
theorem dX4_wouldHit_49 : decode cX4_wouldHit 49 = .ok (.goto 10, 3) := by decide +kernel
theorem dX4_wouldHit_52 : decode cX4_wouldHit 52 = .ok (.aload_n 0, 1) := by decide +kernel
theorem dX4_wouldHit_53 : decode cX4_wouldHit 53 = .ok (.getfield 41, 3) := by decide +kernel
theorem dX4_wouldHit_56 : decode cX4_wouldHit 56 = .ok (.getfield 254, 3) := by decide +kernel
theorem dX4_wouldHit_59 : decode cX4_wouldHit 59 = .ok (.dreturn, 1) := by decide +kernel
set_option maxRecDepth 20000 in
theorem ggX4_mark_X4_archerNumbered : GoodIn wsX4_mark wsX4_archerNumbered := goodIn_ca (goodIn_r _ [9, 10, 11, 12, 13, 51, 52, 53, 54, 55, 56, 57, 58, 59, 60, 61, 62, 63, 64, 65, 66] (by decide +kernel) (by decide +kernel)) (goodIn_sub (fun _ h => List.mem_cons_of_mem _ (List.mem_append_left _ (List.mem_append_right _ h))) (by decide +kernel))
set_option maxRecDepth 20000 in
theorem gX4_mark_X4_archerNumbered : GoodIn wsX4_mark (wsV RX4 78 RX4 yX4_archerNumbered wsX4_archerNumbered) := goodIn_app (goodIn_of _ (by decide +kernel)) ggX4_mark_X4_archerNumbered
set_option maxRecDepth 20000 in
theorem ggX4_mark_X4_quiverOf : GoodIn wsX4_mark wsX4_quiverOf := goodIn_ca (goodIn_r _ [17, 18, 19, 20, 21, 69, 70, 71, 72, 73, 74, 75, 76, 77, 78, 79, 80, 51, 52, 53, 54, 55, 56, 57, 58, 59, 60, 61, 62, 63, 64, 65, 66] (by decide +kernel) (by decide +kernel)) (goodIn_sub (fun _ h => List.mem_cons_of_mem _ (List.mem_append_right _ h)) (by decide +kernel))
set_option maxRecDepth 20000 in
theorem gX4_mark_X4_quiverOf : GoodIn wsX4_mark (wsV RX4 126 RX4 yX4_quiverOf wsX4_quiverOf) := goodIn_app (goodIn_of _ (by decide +kernel)) ggX4_mark_X4_quiverOf
set_option maxRecDepth 20000 in
theorem ggX4_mark_X1_fly : GoodIn wsX4_mark wsX1_fly := goodIn_r _ [26, 27, 28, 29, 30, 31, 32, 33, 34, 35, 36, 37, 38, 39, 40, 41, 42, 43, 44, 45, 46, 47, 69, 70, 71, 72, 73, 74, 75, 76, 77, 78, 79, 80, 81, 82, 83, 84, 85, 67, 68] (by decide +kernel) (by decide +kernel)
set_option maxRecDepth 20000 in
theorem gX4_mark_X1_fly : GoodIn wsX4_mark (wsV RX4 141 RX1 yX1_fly wsX1_fly) := goodIn_app (goodIn_of _ (by decide +kernel)) ggX4_mark_X1_fly
set_option maxRecDepth 20000 in
theorem ggX4_mark_X4_size : GoodIn wsX4_mark wsX4_size := goodIn_r _ [50] (by decide +kernel) (by decide +kernel)
set_option maxRecDepth 20000 in
theorem gX4_mark_X4_size : GoodIn wsX4_mark (va_wsS RX4 256 yX4_size wsX4_size) := goodIn_app (goodIn_of _ (by decide +kernel)) ggX4_mark_X4_size
theorem dX4_mark_0 : decode cX4_mark 0 = .ok (.aload_n 0, 1) := by decide +kernel
theorem dX4_mark_1 : decode cX4_mark 1 = .ok (.iload_n 1, 1) := by decide +kernel
theorem dX4_mark_2 : decode cX4_mark 2 = .ok (.invokevirtual 78, 3) := by decide +kernel
theorem dX4_mark_5 : decode cX4_mark 5 = .ok (.astore_n 2, 1) := by decide +kernel
theorem dX4_mark_6 : decode cX4_mark 6 = .ok (.aload_n 0, 1) := by decide +kernel
theorem dX4_mark_7 : decode cX4_mark 7 = .ok (.aload_n 2, 1) := by decide +kernel
theorem dX4_mark_8 : decode cX4_mark 8 = .ok (.invokevirtual 126, 3) := by decide +kernel
theorem dX4_mark_11 : decode cX4_mark 11 = .ok (.astore_n 3, 1) := by decide +kernel
theorem dX4_mark_12 : decode cX4_mark 12 = .ok (.iconst (-1), 1) := by decide +kernel
theorem dX4_mark_13 : decode cX4_mark 13 = .ok (.istore 4, 2) := by decide +kernel
theorem dX4_mark_15 : decode cX4_mark 15 = .ok (.dconst 0, 1) := by decide +kernel
theorem dX4_mark_16 : decode cX4_mark 16 = .ok (.dstore 5, 2) := by decide +kernel
theorem dX4_mark_18 : decode cX4_mark 18 = .ok (.iconst 0, 1) := by decide +kernel
theorem dX4_mark_19 : decode cX4_mark 19 = .ok (.istore 7, 2) := by decide +kernel
theorem dX4_mark_21 : decode cX4_mark 21 = .ok (.iload 7, 2) := by decide +kernel
theorem dX4_mark_23 : decode cX4_mark 23 = .ok (.bipush 127, 2) := by decide +kernel
theorem dX4_mark_25 : decode cX4_mark 25 = .ok (.if_icmp .gt 62, 3) := by decide +kernel
theorem dX4_mark_28 : decode cX4_mark 28 = .ok (.aload_n 0, 1) := by decide +kernel
theorem dX4_mark_29 : decode cX4_mark 29 = .ok (.getfield 41, 3) := by decide +kernel
theorem dX4_mark_32 : decode cX4_mark 32 = .ok (.aload_n 2, 1) := by decide +kernel
theorem dX4_mark_33 : decode cX4_mark 33 = .ok (.aload_n 3, 1) := by decide +kernel
theorem dX4_mark_34 : decode cX4_mark 34 = .ok (.iload 7, 2) := by decide +kernel
theorem dX4_mark_36 : decode cX4_mark 36 = .ok (.aload_n 0, 1) := by decide +kernel
theorem dX4_mark_37 : decode cX4_mark 37 = .ok (.getfield 21, 3) := by decide +kernel
theorem dX4_mark_40 : decode cX4_mark 40 = .ok (.aload_n 0, 1) := by decide +kernel
theorem dX4_mark_41 : decode cX4_mark 41 = .ok (.getfield 115, 3) := by decide +kernel
theorem dX4_mark_44 : decode cX4_mark 44 = .ok (.invokevirtual 141, 3) := by decide +kernel
theorem dX4_mark_47 : decode cX4_mark 47 = .ok (.aload_n 0, 1) := by decide +kernel
theorem dX4_mark_48 : decode cX4_mark 48 = .ok (.getfield 41, 3) := by decide +kernel
theorem dX4_mark_51 : decode cX4_mark 51 = .ok (.getfield 251, 3) := by decide +kernel
theorem dX4_mark_54 : decode cX4_mark 54 = .ok (.invokestatic 256, 3) := by decide +kernel
theorem dX4_mark_57 : decode cX4_mark 57 = .ok (.dstore 8, 2) := by decide +kernel
theorem dX4_mark_59 : decode cX4_mark 59 = .ok (.iload 4, 2) := by decide +kernel
theorem dX4_mark_61 : decode cX4_mark 61 = .ok (.iconst (-1), 1) := by decide +kernel
theorem dX4_mark_62 : decode cX4_mark 62 = .ok (.if_icmp .eq 11, 3) := by decide +kernel
theorem dX4_mark_65 : decode cX4_mark 65 = .ok (.dload 8, 2) := by decide +kernel
theorem dX4_mark_67 : decode cX4_mark 67 = .ok (.dload 5, 2) := by decide +kernel
theorem dX4_mark_69 : decode cX4_mark 69 = .ok (.dcmp .g, 1) := by decide +kernel
theorem dX4_mark_70 : decode cX4_mark 70 = .ok (.ifCond .ge 11, 3) := by decide +kernel
theorem dX4_mark_73 : decode cX4_mark 73 = .ok (.iload 7, 2) := by decide +kernel
theorem dX4_mark_75 : decode cX4_mark 75 = .ok (.istore 4, 2) := by decide +kernel
theorem dX4_mark_77 : decode cX4_mark 77 = .ok (.dload 8, 2) := by decide +kernel
theorem dX4_mark_79 : decode cX4_mark 79 = .ok (.dstore 5, 2) := by decide +kernel
theorem dX4_mark_81 : decode cX4_mark 81 = .ok (.iinc 7 1, 3) := by decide +kernel
theorem dX4_mark_84 : decode cX4_mark 84 = .ok (.goto (-63), 3) := by decide +kernel
theorem dX4_mark_87 : decode cX4_mark 87 = .ok (.iload 4, 2) := by decide +kernel
theorem dX4_mark_89 : decode cX4_mark 89 = .ok (.ireturn, 1) := by decide +kernel
set_option maxRecDepth 20000 in
theorem ggX4_best_X4_archerNumbered : GoodIn wsX4_best wsX4_archerNumbered := goodIn_ca (goodIn_r _ [12, 13, 14, 15, 16, 51, 52, 53, 54, 55, 56, 57, 58, 59, 60, 61, 62, 63, 64, 65, 66] (by decide +kernel) (by decide +kernel)) (goodIn_sub (fun _ h => List.mem_cons_of_mem _ (List.mem_append_right _ h)) (by decide +kernel))
set_option maxRecDepth 20000 in
theorem gX4_best_X4_archerNumbered : GoodIn wsX4_best (wsV RX4 78 RX4 yX4_archerNumbered wsX4_archerNumbered) := goodIn_app (goodIn_of _ (by decide +kernel)) ggX4_best_X4_archerNumbered
set_option maxRecDepth 20000 in
theorem ggX4_best_X4_holderOf : GoodIn wsX4_best wsX4_holderOf := goodIn_r _ [20, 15, 16, 21, 51, 52, 53, 54, 55, 56, 57, 58, 59, 60, 61, 62, 63, 64, 65, 66, 67, 68, 69, 70, 71, 72, 73, 74, 75, 76, 77, 78] (by decide +kernel) (by decide +kernel)
set_option maxRecDepth 20000 in
theorem gX4_best_X4_holderOf : GoodIn wsX4_best (wsV RX4 92 RX4 yX4_holderOf wsX4_holderOf) := goodIn_app (goodIn_of _ (by decide +kernel)) ggX4_best_X4_holderOf
set_option maxRecDepth 20000 in
theorem ggX4_best_X1_fly : GoodIn wsX4_best wsX1_fly := goodIn_r _ [26, 27, 28, 29, 30, 31, 32, 33, 34, 35, 36, 37, 38, 39, 40, 41, 42, 43, 44, 45, 46, 47, 67, 68, 69, 70, 71, 72, 73, 74, 75, 76, 77, 78, 81, 82, 83, 84, 85, 79, 80] (by decide +kernel) (by decide +kernel)
set_option maxRecDepth 20000 in
theorem gX4_best_X1_fly : GoodIn wsX4_best (wsV RX4 141 RX1 yX1_fly wsX1_fly) := goodIn_app (goodIn_of _ (by decide +kernel)) ggX4_best_X1_fly
set_option maxRecDepth 20000 in
theorem ggX4_best_X4_size : GoodIn wsX4_best wsX4_size := goodIn_r _ [50] (by decide +kernel) (by decide +kernel)
set_option maxRecDepth 20000 in
theorem gX4_best_X4_size : GoodIn wsX4_best (va_wsS RX4 256 yX4_size wsX4_size) := goodIn_app (goodIn_of _ (by decide +kernel)) ggX4_best_X4_size
theorem dX4_best_0 : decode cX4_best 0 = .ok (.aload_n 0, 1) := by decide +kernel
theorem dX4_best_1 : decode cX4_best 1 = .ok (.iload_n 1, 1) := by decide +kernel
theorem dX4_best_2 : decode cX4_best 2 = .ok (.invokevirtual 78, 3) := by decide +kernel
theorem dX4_best_5 : decode cX4_best 5 = .ok (.astore_n 2, 1) := by decide +kernel
theorem dX4_best_6 : decode cX4_best 6 = .ok (.iconst (-1), 1) := by decide +kernel
theorem dX4_best_7 : decode cX4_best 7 = .ok (.istore_n 3, 1) := by decide +kernel
theorem dX4_best_8 : decode cX4_best 8 = .ok (.dconst 0, 1) := by decide +kernel
theorem dX4_best_9 : decode cX4_best 9 = .ok (.dstore 4, 2) := by decide +kernel
theorem dX4_best_11 : decode cX4_best 11 = .ok (.iconst 0, 1) := by decide +kernel
theorem dX4_best_12 : decode cX4_best 12 = .ok (.istore 6, 2) := by decide +kernel
theorem dX4_best_14 : decode cX4_best 14 = .ok (.iload 6, 2) := by decide +kernel
theorem dX4_best_16 : decode cX4_best 16 = .ok (.aload_n 0, 1) := by decide +kernel
theorem dX4_best_17 : decode cX4_best 17 = .ok (.getfield 67, 3) := by decide +kernel
theorem dX4_best_20 : decode cX4_best 20 = .ok (.if_icmp .ge 88, 3) := by decide +kernel
theorem dX4_best_23 : decode cX4_best 23 = .ok (.aload_n 0, 1) := by decide +kernel
theorem dX4_best_24 : decode cX4_best 24 = .ok (.iload 6, 2) := by decide +kernel
theorem dX4_best_26 : decode cX4_best 26 = .ok (.invokevirtual 92, 3) := by decide +kernel
theorem dX4_best_29 : decode cX4_best 29 = .ok (.istore 7, 2) := by decide +kernel
theorem dX4_best_31 : decode cX4_best 31 = .ok (.iload 7, 2) := by decide +kernel
theorem dX4_best_33 : decode cX4_best 33 = .ok (.iconst (-1), 1) := by decide +kernel
theorem dX4_best_34 : decode cX4_best 34 = .ok (.if_icmp .eq 9, 3) := by decide +kernel
theorem dX4_best_37 : decode cX4_best 37 = .ok (.iload 7, 2) := by decide +kernel
theorem dX4_best_39 : decode cX4_best 39 = .ok (.iload_n 1, 1) := by decide +kernel
theorem dX4_best_40 : decode cX4_best 40 = .ok (.if_icmp .ne 62, 3) := by decide +kernel
theorem dX4_best_43 : decode cX4_best 43 = .ok (.aload_n 0, 1) := by decide +kernel
theorem dX4_best_44 : decode cX4_best 44 = .ok (.getfield 41, 3) := by decide +kernel
theorem dX4_best_47 : decode cX4_best 47 = .ok (.aload_n 2, 1) := by decide +kernel
theorem dX4_best_48 : decode cX4_best 48 = .ok (.aload_n 0, 1) := by decide +kernel
theorem dX4_best_49 : decode cX4_best 49 = .ok (.getfield 17, 3) := by decide +kernel
theorem dX4_best_52 : decode cX4_best 52 = .ok (.iload 6, 2) := by decide +kernel
theorem dX4_best_54 : decode cX4_best 54 = .ok (.aaload, 1) := by decide +kernel
theorem dX4_best_55 : decode cX4_best 55 = .ok (.aload_n 2, 1) := by decide +kernel
theorem dX4_best_56 : decode cX4_best 56 = .ok (.getfield 99, 3) := by decide +kernel
theorem dX4_best_59 : decode cX4_best 59 = .ok (.aload_n 0, 1) := by decide +kernel
theorem dX4_best_60 : decode cX4_best 60 = .ok (.getfield 21, 3) := by decide +kernel
theorem dX4_best_63 : decode cX4_best 63 = .ok (.aload_n 0, 1) := by decide +kernel
theorem dX4_best_64 : decode cX4_best 64 = .ok (.getfield 115, 3) := by decide +kernel
theorem dX4_best_67 : decode cX4_best 67 = .ok (.invokevirtual 141, 3) := by decide +kernel
theorem dX4_best_70 : decode cX4_best 70 = .ok (.aload_n 0, 1) := by decide +kernel
theorem dX4_best_71 : decode cX4_best 71 = .ok (.getfield 41, 3) := by decide +kernel
theorem dX4_best_74 : decode cX4_best 74 = .ok (.getfield 254, 3) := by decide +kernel
theorem dX4_best_77 : decode cX4_best 77 = .ok (.invokestatic 256, 3) := by decide +kernel
theorem dX4_best_80 : decode cX4_best 80 = .ok (.dstore 8, 2) := by decide +kernel
theorem dX4_best_82 : decode cX4_best 82 = .ok (.iload_n 3, 1) := by decide +kernel
theorem dX4_best_83 : decode cX4_best 83 = .ok (.iconst (-1), 1) := by decide +kernel
theorem dX4_best_84 : decode cX4_best 84 = .ok (.if_icmp .eq 11, 3) := by decide +kernel
theorem dX4_best_87 : decode cX4_best 87 = .ok (.dload 8, 2) := by decide +kernel
theorem dX4_best_89 : decode cX4_best 89 = .ok (.dload 4, 2) := by decide +kernel
theorem dX4_best_91 : decode cX4_best 91 = .ok (.dcmp .g, 1) := by decide +kernel
theorem dX4_best_92 : decode cX4_best 92 = .ok (.ifCond .ge 10, 3) := by decide +kernel
theorem dX4_best_95 : decode cX4_best 95 = .ok (.iload 6, 2) := by decide +kernel
theorem dX4_best_97 : decode cX4_best 97 = .ok (.istore_n 3, 1) := by decide +kernel
theorem dX4_best_98 : decode cX4_best 98 = .ok (.dload 8, 2) := by decide +kernel
theorem dX4_best_100 : decode cX4_best 100 = .ok (.dstore 4, 2) := by decide +kernel
theorem dX4_best_102 : decode cX4_best 102 = .ok (.iinc 6 1, 3) := by decide +kernel
theorem dX4_best_105 : decode cX4_best 105 = .ok (.goto (-91), 3) := by decide +kernel
theorem dX4_best_108 : decode cX4_best 108 = .ok (.iload_n 3, 1) := by decide +kernel
theorem dX4_best_109 : decode cX4_best 109 = .ok (.ireturn, 1) := by decide +kernel
set_option maxRecDepth 20000 in
theorem ggX4_reach_X4_archerNumbered : GoodIn wsX4_reach wsX4_archerNumbered := goodIn_ca (goodIn_r _ [8, 9, 10, 11, 12, 47, 48, 49, 50, 51, 52, 53, 54, 55, 56, 57, 58, 59, 60, 61, 62] (by decide +kernel) (by decide +kernel)) (goodIn_sub (fun _ h => List.mem_cons_of_mem _ (List.mem_append_left _ (List.mem_append_right _ h))) (by decide +kernel))
set_option maxRecDepth 20000 in
theorem gX4_reach_X4_archerNumbered : GoodIn wsX4_reach (wsV RX4 78 RX4 yX4_archerNumbered wsX4_archerNumbered) := goodIn_app (goodIn_of _ (by decide +kernel)) ggX4_reach_X4_archerNumbered
set_option maxRecDepth 20000 in
theorem ggX4_reach_X4_quiverOf : GoodIn wsX4_reach wsX4_quiverOf := goodIn_ca (goodIn_r _ [16, 17, 18, 19, 20, 65, 66, 67, 68, 69, 70, 71, 72, 73, 74, 75, 76, 47, 48, 49, 50, 51, 52, 53, 54, 55, 56, 57, 58, 59, 60, 61, 62] (by decide +kernel) (by decide +kernel)) (goodIn_sub (fun _ h => List.mem_cons_of_mem _ (List.mem_append_right _ h)) (by decide +kernel))
set_option maxRecDepth 20000 in
theorem gX4_reach_X4_quiverOf : GoodIn wsX4_reach (wsV RX4 126 RX4 yX4_quiverOf wsX4_quiverOf) := goodIn_app (goodIn_of _ (by decide +kernel)) ggX4_reach_X4_quiverOf
set_option maxRecDepth 20000 in
theorem ggX4_reach_X1_fly : GoodIn wsX4_reach wsX1_fly := goodIn_r _ [25, 26, 27, 28, 29, 30, 31, 32, 33, 34, 35, 36, 37, 38, 39, 40, 41, 42, 43, 44, 45, 46, 65, 66, 67, 68, 69, 70, 71, 72, 73, 74, 75, 76, 77, 78, 79, 80, 81, 63, 64] (by decide +kernel) (by decide +kernel)
set_option maxRecDepth 20000 in
theorem gX4_reach_X1_fly : GoodIn wsX4_reach (wsV RX4 141 RX1 yX1_fly wsX1_fly) := goodIn_app (goodIn_of _ (by decide +kernel)) ggX4_reach_X1_fly
theorem dX4_reach_0 : decode cX4_reach 0 = .ok (.aload_n 0, 1) := by decide +kernel
theorem dX4_reach_1 : decode cX4_reach 1 = .ok (.iload_n 1, 1) := by decide +kernel
theorem dX4_reach_2 : decode cX4_reach 2 = .ok (.invokevirtual 78, 3) := by decide +kernel
theorem dX4_reach_5 : decode cX4_reach 5 = .ok (.astore_n 2, 1) := by decide +kernel
theorem dX4_reach_6 : decode cX4_reach 6 = .ok (.aload_n 0, 1) := by decide +kernel
theorem dX4_reach_7 : decode cX4_reach 7 = .ok (.aload_n 2, 1) := by decide +kernel
theorem dX4_reach_8 : decode cX4_reach 8 = .ok (.invokevirtual 126, 3) := by decide +kernel
theorem dX4_reach_11 : decode cX4_reach 11 = .ok (.astore_n 3, 1) := by decide +kernel
theorem dX4_reach_12 : decode cX4_reach 12 = .ok (.bipush 90, 2) := by decide +kernel
theorem dX4_reach_14 : decode cX4_reach 14 = .ok (.istore 4, 2) := by decide +kernel
theorem dX4_reach_16 : decode cX4_reach 16 = .ok (.iload 4, 2) := by decide +kernel
theorem dX4_reach_18 : decode cX4_reach 18 = .ok (.bipush 10, 2) := by decide +kernel
theorem dX4_reach_20 : decode cX4_reach 20 = .ok (.if_icmp .lt 41, 3) := by decide +kernel
theorem dX4_reach_23 : decode cX4_reach 23 = .ok (.aload_n 0, 1) := by decide +kernel
theorem dX4_reach_24 : decode cX4_reach 24 = .ok (.getfield 41, 3) := by decide +kernel
theorem dX4_reach_27 : decode cX4_reach 27 = .ok (.aload_n 2, 1) := by decide +kernel
theorem dX4_reach_28 : decode cX4_reach 28 = .ok (.aload_n 3, 1) := by decide +kernel
theorem dX4_reach_29 : decode cX4_reach 29 = .ok (.bipush 127, 2) := by decide +kernel
theorem dX4_reach_31 : decode cX4_reach 31 = .ok (.iload 4, 2) := by decide +kernel
theorem dX4_reach_33 : decode cX4_reach 33 = .ok (.aload_n 0, 1) := by decide +kernel
theorem dX4_reach_34 : decode cX4_reach 34 = .ok (.getfield 115, 3) := by decide +kernel
theorem dX4_reach_37 : decode cX4_reach 37 = .ok (.invokevirtual 141, 3) := by decide +kernel
theorem dX4_reach_40 : decode cX4_reach 40 = .ok (.aload_n 0, 1) := by decide +kernel
theorem dX4_reach_41 : decode cX4_reach 41 = .ok (.getfield 41, 3) := by decide +kernel
theorem dX4_reach_44 : decode cX4_reach 44 = .ok (.getfield 251, 3) := by decide +kernel
theorem dX4_reach_47 : decode cX4_reach 47 = .ok (.dconst 0, 1) := by decide +kernel
theorem dX4_reach_48 : decode cX4_reach 48 = .ok (.dcmp .l, 1) := by decide +kernel
theorem dX4_reach_49 : decode cX4_reach 49 = .ok (.ifCond .lt 6, 3) := by decide +kernel
theorem dX4_reach_52 : decode cX4_reach 52 = .ok (.iload 4, 2) := by decide +kernel
theorem dX4_reach_54 : decode cX4_reach 54 = .ok (.ireturn, 1) := by decide +kernel
theorem dX4_reach_55 : decode cX4_reach 55 = .ok (.iinc 4 (-1), 3) := by decide +kernel
theorem dX4_reach_58 : decode cX4_reach 58 = .ok (.goto (-42), 3) := by decide +kernel
theorem dX4_reach_61 : decode cX4_reach 61 = .ok (.iconst (-1), 1) := by decide +kernel
theorem dX4_reach_62 : decode cX4_reach 62 = .ok (.ireturn, 1) := by decide +kernel
set_option maxRecDepth 20000 in
theorem ggX4_wouldScore_X4_archerNumbered : GoodIn wsX4_wouldScore wsX4_archerNumbered := goodIn_ca (goodIn_r _ [10, 11, 12, 13, 14, 58, 59, 60, 61, 62, 63, 64, 65, 66, 67, 68, 69, 70, 71, 72, 73] (by decide +kernel) (by decide +kernel)) (goodIn_sub (fun _ h => List.mem_cons_of_mem _ (List.mem_append_left _ (List.mem_append_right _ h))) (by decide +kernel))
set_option maxRecDepth 20000 in
theorem gX4_wouldScore_X4_archerNumbered : GoodIn wsX4_wouldScore (wsV RX4 78 RX4 yX4_archerNumbered wsX4_archerNumbered) := goodIn_app (goodIn_of _ (by decide +kernel)) ggX4_wouldScore_X4_archerNumbered
set_option maxRecDepth 20000 in
theorem ggX4_wouldScore_X4_quiverOf : GoodIn wsX4_wouldScore wsX4_quiverOf := goodIn_ca (goodIn_r _ [18, 19, 20, 21, 22, 74, 75, 76, 77, 78, 79, 80, 81, 82, 83, 84, 85, 58, 59, 60, 61, 62, 63, 64, 65, 66, 67, 68, 69, 70, 71, 72, 73] (by decide +kernel) (by decide +kernel)) (goodIn_sub (fun _ h => List.mem_cons_of_mem _ (List.mem_append_right _ h)) (by decide +kernel))
set_option maxRecDepth 20000 in
theorem gX4_wouldScore_X4_quiverOf : GoodIn wsX4_wouldScore (wsV RX4 126 RX4 yX4_quiverOf wsX4_quiverOf) := goodIn_app (goodIn_of _ (by decide +kernel)) ggX4_wouldScore_X4_quiverOf
set_option maxRecDepth 20000 in
theorem ggX4_wouldScore_X1_fly : GoodIn wsX4_wouldScore wsX1_fly := goodIn_r _ [27, 28, 29, 30, 31, 32, 33, 34, 35, 36, 37, 38, 39, 40, 41, 42, 43, 44, 45, 46, 47, 48, 74, 75, 76, 77, 78, 79, 80, 81, 82, 83, 84, 85, 86, 87, 88, 89, 90, 91, 92] (by decide +kernel) (by decide +kernel)
set_option maxRecDepth 20000 in
theorem gX4_wouldScore_X1_fly : GoodIn wsX4_wouldScore (wsV RX4 141 RX1 yX1_fly wsX1_fly) := goodIn_app (goodIn_of _ (by decide +kernel)) ggX4_wouldScore_X1_fly
set_option maxRecDepth 20000 in
theorem ggX4_wouldScore_X1_worth : GoodIn wsX4_wouldScore wsX1_worth := goodIn_r _ [52, 38, 53, 54, 55, 56, 26, 57, 34, 35, 91, 92] (by decide +kernel) (by decide +kernel)
set_option maxRecDepth 20000 in
theorem gX4_wouldScore_X1_worth : GoodIn wsX4_wouldScore (wsV RX4 154 RX1 yX1_worth wsX1_worth) := goodIn_app (goodIn_of _ (by decide +kernel)) ggX4_wouldScore_X1_worth
theorem dX4_wouldScore_0 : decode cX4_wouldScore 0 = .ok (.aload_n 0, 1) := by decide +kernel
theorem dX4_wouldScore_1 : decode cX4_wouldScore 1 = .ok (.iload_n 1, 1) := by decide +kernel
theorem dX4_wouldScore_2 : decode cX4_wouldScore 2 = .ok (.invokevirtual 78, 3) := by decide +kernel
theorem dX4_wouldScore_5 : decode cX4_wouldScore 5 = .ok (.astore_n 2, 1) := by decide +kernel
theorem dX4_wouldScore_6 : decode cX4_wouldScore 6 = .ok (.aload_n 0, 1) := by decide +kernel
theorem dX4_wouldScore_7 : decode cX4_wouldScore 7 = .ok (.getfield 41, 3) := by decide +kernel
theorem dX4_wouldScore_10 : decode cX4_wouldScore 10 = .ok (.aload_n 2, 1) := by decide +kernel
theorem dX4_wouldScore_11 : decode cX4_wouldScore 11 = .ok (.aload_n 0, 1) := by decide +kernel
theorem dX4_wouldScore_12 : decode cX4_wouldScore 12 = .ok (.aload_n 2, 1) := by decide +kernel
theorem dX4_wouldScore_13 : decode cX4_wouldScore 13 = .ok (.invokevirtual 126, 3) := by decide +kernel
theorem dX4_wouldScore_16 : decode cX4_wouldScore 16 = .ok (.aload_n 2, 1) := by decide +kernel
theorem dX4_wouldScore_17 : decode cX4_wouldScore 17 = .ok (.getfield 99, 3) := by decide +kernel
theorem dX4_wouldScore_20 : decode cX4_wouldScore 20 = .ok (.aload_n 0, 1) := by decide +kernel
theorem dX4_wouldScore_21 : decode cX4_wouldScore 21 = .ok (.getfield 21, 3) := by decide +kernel
theorem dX4_wouldScore_24 : decode cX4_wouldScore 24 = .ok (.aload_n 0, 1) := by decide +kernel
theorem dX4_wouldScore_25 : decode cX4_wouldScore 25 = .ok (.getfield 115, 3) := by decide +kernel
theorem dX4_wouldScore_28 : decode cX4_wouldScore 28 = .ok (.invokevirtual 141, 3) := by decide +kernel
theorem dX4_wouldScore_31 : decode cX4_wouldScore 31 = .ok (.aload_n 0, 1) := by decide +kernel
theorem dX4_wouldScore_32 : decode cX4_wouldScore 32 = .ok (.getfield 41, 3) := by decide +kernel
theorem dX4_wouldScore_35 : decode cX4_wouldScore 35 = .ok (.aload_n 0, 1) := by decide +kernel
theorem dX4_wouldScore_36 : decode cX4_wouldScore 36 = .ok (.getfield 25, 3) := by decide +kernel
theorem dX4_wouldScore_39 : decode cX4_wouldScore 39 = .ok (.invokevirtual 154, 3) := by decide +kernel
theorem dX4_wouldScore_42 : decode cX4_wouldScore 42 = .ok (.ireturn, 1) := by decide +kernel
set_option maxRecDepth 20000 in
theorem ggX4_digest_X4_many : GoodIn wsX4_digest wsX4_many := goodIn_ca (goodIn_r _ [9, 3, 4, 10, 11, 12, 13, 14, 15, 16, 17, 18, 19, 20, 8, 21, 22, 23, 24, 25, 26, 27, 28, 29, 30, 31, 32, 33, 34, 35, 36, 37, 38, 39, 40, 41, 167, 168, 169, 170, 171, 172, 173, 174, 175, 176, 177, 178, 179, 180, 181, 182, 183, 184, 185, 186, 187] (by decide +kernel) (by decide +kernel)) (goodIn_sub (fun _ h => List.mem_cons_of_mem _ (List.mem_append_left _ (List.mem_append_right _ h))) (by decide +kernel))
set_option maxRecDepth 20000 in
theorem gX4_digest_X4_many : GoodIn wsX4_digest (wsV RX4 264 RX4 yX4_many wsX4_many) := goodIn_app (goodIn_of _ (by decide +kernel)) ggX4_digest_X4_many
set_option maxRecDepth 20000 in
theorem ggX4_digest_X4_ofMatch : GoodIn wsX4_digest wsX4_ofMatch := goodIn_ca (goodIn_r _ [45, 46, 47, 48, 49, 50, 51, 52, 53, 54, 19, 20, 8, 21, 22, 23, 55, 56, 57, 58, 59, 60, 61, 62, 63, 64, 65, 66, 167, 168, 169, 170, 171, 172, 173, 174, 175, 176, 177, 178, 179, 180, 181, 182, 188, 189, 190, 191, 192, 193, 194, 195, 196, 197] (by decide +kernel) (by decide +kernel)) (goodIn_sub (fun _ h => List.mem_cons_of_mem _ (List.mem_append_left _ (List.mem_append_right _ h))) (by decide +kernel))
set_option maxRecDepth 20000 in
theorem gX4_digest_X4_ofMatch : GoodIn wsX4_digest (wsV RX4 267 RX4 yX4_ofMatch wsX4_ofMatch) := goodIn_app (goodIn_of _ (by decide +kernel)) ggX4_digest_X4_ofMatch
set_option maxRecDepth 20000 in
theorem ggX4_digest_X4_winner : GoodIn wsX4_digest wsX4_winner := goodIn_r _ [70, 71, 167, 168, 169, 170, 171, 172, 173, 174, 175, 176, 177, 178, 179, 180, 181, 182] (by decide +kernel) (by decide +kernel)
set_option maxRecDepth 20000 in
theorem gX4_digest_X4_winner : GoodIn wsX4_digest (wsV RX4 270 RX4 yX4_winner wsX4_winner) := goodIn_app (goodIn_of _ (by decide +kernel)) ggX4_digest_X4_winner
set_option maxRecDepth 20000 in
theorem ggX4_digest_X4_withArcher : GoodIn wsX4_digest wsX4_withArcher := goodIn_ca (goodIn_ca (goodIn_r _ [75, 2, 76, 77, 78, 79, 8, 80, 81, 82, 83, 84, 85, 86, 87, 88, 89, 90, 91, 92, 93, 94, 95, 96, 97, 3, 98, 19, 20, 21, 22, 23, 99, 100, 101, 102, 28, 103, 104, 105, 106, 107, 108, 109, 110, 111, 112, 113, 114, 115, 116, 4, 117, 10, 11, 118, 119, 120, 121, 122, 123, 124, 125, 126, 127, 128, 129, 130, 131, 132, 133, 134, 135, 136, 137, 138, 139, 140, 141, 142, 198, 199, 200, 201, 202, 203, 204, 205, 206, 207, 208, 209, 167, 168, 169, 170, 171, 172, 173, 174, 175, 176, 177, 178, 179, 180, 181, 182, 183, 184, 185, 186, 187, 210, 211] (by decide +kernel) (by decide +kernel)) (goodIn_sub (fun _ h => List.mem_cons_of_mem _ (List.mem_append_right _ h)) (by decide +kernel))) (goodIn_sub (fun _ h => List.mem_cons_of_mem _ (List.mem_append_left _ (List.mem_append_right _ h))) (by decide +kernel))
set_option maxRecDepth 20000 in
theorem gX4_digest_X4_withArcher : GoodIn wsX4_digest (wsV RX4 273 RX4 yX4_withArcher wsX4_withArcher) := goodIn_app (goodIn_of _ (by decide +kernel)) ggX4_digest_X4_withArcher
set_option maxRecDepth 20000 in
theorem ggX4_digest_X4_withQuiver : GoodIn wsX4_digest wsX4_withQuiver := goodIn_ca (goodIn_ca (goodIn_r _ [146, 2, 147, 148, 149, 150, 8, 151, 28, 152, 153, 154, 155, 156, 157, 96, 97, 4, 19, 20, 21, 22, 23, 119, 120, 121, 122, 3, 98, 85, 29, 30, 31, 32, 33, 34, 158, 159, 160, 161, 162, 163, 164, 165, 166, 167, 168, 169, 170, 171, 172, 173, 174, 175, 176, 177, 178, 179, 180, 181, 182, 183, 184, 185, 186, 187, 198, 199, 200, 201, 202, 203, 204, 205, 206, 207, 208, 209] (by decide +kernel) (by decide +kernel)) (goodIn_sub (fun _ h => List.mem_cons_of_mem _ (List.mem_append_right _ h)) (by decide +kernel))) (goodIn_sub (fun _ h => List.mem_cons_of_mem _ (List.mem_append_left _ (List.mem_append_right _ h))) (by decide +kernel))
set_option maxRecDepth 20000 in
theorem gX4_digest_X4_withQuiver : GoodIn wsX4_digest (wsV RX4 277 RX4 yX4_withQuiver wsX4_withQuiver) := goodIn_app (goodIn_of _ (by decide +kernel)) ggX4_digest_X4_withQuiver
theorem dX4_digest_0 : decode cX4_digest 0 = .ok (.ldc2_w 260, 3) := by decide +kernel
theorem dX4_digest_3 : decode cX4_digest 3 = .ok (.lstore_n 1, 1) := by decide +kernel
theorem dX4_digest_4 : decode cX4_digest 4 = .ok (.iconst 0, 1) := by decide +kernel
theorem dX4_digest_5 : decode cX4_digest 5 = .ok (.istore_n 3, 1) := by decide +kernel
theorem dX4_digest_6 : decode cX4_digest 6 = .ok (.iload_n 3, 1) := by decide +kernel
theorem dX4_digest_7 : decode cX4_digest 7 = .ok (.bipush 11, 2) := by decide +kernel
theorem dX4_digest_9 : decode cX4_digest 9 = .ok (.if_icmp .gt 22, 3) := by decide +kernel
theorem dX4_digest_12 : decode cX4_digest 12 = .ok (.lload_n 1, 1) := by decide +kernel
theorem dX4_digest_13 : decode cX4_digest 13 = .ok (.ldc2_w 262, 3) := by decide +kernel
theorem dX4_digest_16 : decode cX4_digest 16 = .ok (.lmul, 1) := by decide +kernel
theorem dX4_digest_17 : decode cX4_digest 17 = .ok (.aload_n 0, 1) := by decide +kernel
theorem dX4_digest_18 : decode cX4_digest 18 = .ok (.iload_n 3, 1) := by decide +kernel
theorem dX4_digest_19 : decode cX4_digest 19 = .ok (.invokevirtual 264, 3) := by decide +kernel
theorem dX4_digest_22 : decode cX4_digest 22 = .ok (.i2l, 1) := by decide +kernel
theorem dX4_digest_23 : decode cX4_digest 23 = .ok (.ladd, 1) := by decide +kernel
theorem dX4_digest_24 : decode cX4_digest 24 = .ok (.lstore_n 1, 1) := by decide +kernel
theorem dX4_digest_25 : decode cX4_digest 25 = .ok (.iinc 3 1, 3) := by decide +kernel
theorem dX4_digest_28 : decode cX4_digest 28 = .ok (.goto (-22), 3) := by decide +kernel
theorem dX4_digest_31 : decode cX4_digest 31 = .ok (.iconst 0, 1) := by decide +kernel
theorem dX4_digest_32 : decode cX4_digest 32 = .ok (.istore_n 3, 1) := by decide +kernel
theorem dX4_digest_33 : decode cX4_digest 33 = .ok (.iload_n 3, 1) := by decide +kernel
theorem dX4_digest_34 : decode cX4_digest 34 = .ok (.bipush 7, 2) := by decide +kernel
theorem dX4_digest_36 : decode cX4_digest 36 = .ok (.if_icmp .gt 22, 3) := by decide +kernel
theorem dX4_digest_39 : decode cX4_digest 39 = .ok (.lload_n 1, 1) := by decide +kernel
theorem dX4_digest_40 : decode cX4_digest 40 = .ok (.ldc2_w 262, 3) := by decide +kernel
theorem dX4_digest_43 : decode cX4_digest 43 = .ok (.lmul, 1) := by decide +kernel
theorem dX4_digest_44 : decode cX4_digest 44 = .ok (.aload_n 0, 1) := by decide +kernel
theorem dX4_digest_45 : decode cX4_digest 45 = .ok (.iload_n 3, 1) := by decide +kernel
theorem dX4_digest_46 : decode cX4_digest 46 = .ok (.invokevirtual 267, 3) := by decide +kernel
theorem dX4_digest_49 : decode cX4_digest 49 = .ok (.i2l, 1) := by decide +kernel
theorem dX4_digest_50 : decode cX4_digest 50 = .ok (.ladd, 1) := by decide +kernel
theorem dX4_digest_51 : decode cX4_digest 51 = .ok (.lstore_n 1, 1) := by decide +kernel
theorem dX4_digest_52 : decode cX4_digest 52 = .ok (.iinc 3 1, 3) := by decide +kernel
theorem dX4_digest_55 : decode cX4_digest 55 = .ok (.goto (-22), 3) := by decide +kernel
theorem dX4_digest_58 : decode cX4_digest 58 = .ok (.lload_n 1, 1) := by decide +kernel
theorem dX4_digest_59 : decode cX4_digest 59 = .ok (.ldc2_w 262, 3) := by decide +kernel
theorem dX4_digest_62 : decode cX4_digest 62 = .ok (.lmul, 1) := by decide +kernel
theorem dX4_digest_63 : decode cX4_digest 63 = .ok (.aload_n 0, 1) := by decide +kernel
theorem dX4_digest_64 : decode cX4_digest 64 = .ok (.invokevirtual 270, 3) := by decide +kernel
theorem dX4_digest_67 : decode cX4_digest 67 = .ok (.i2l, 1) := by decide +kernel
theorem dX4_digest_68 : decode cX4_digest 68 = .ok (.ladd, 1) := by decide +kernel
theorem dX4_digest_69 : decode cX4_digest 69 = .ok (.lstore_n 1, 1) := by decide +kernel
theorem dX4_digest_70 : decode cX4_digest 70 = .ok (.iconst 0, 1) := by decide +kernel
theorem dX4_digest_71 : decode cX4_digest 71 = .ok (.istore_n 3, 1) := by decide +kernel
theorem dX4_digest_72 : decode cX4_digest 72 = .ok (.iload_n 3, 1) := by decide +kernel
theorem dX4_digest_73 : decode cX4_digest 73 = .ok (.aload_n 0, 1) := by decide +kernel
theorem dX4_digest_74 : decode cX4_digest 74 = .ok (.getfield 51, 3) := by decide +kernel
theorem dX4_digest_77 : decode cX4_digest 77 = .ok (.if_icmp .ge 16, 3) := by decide +kernel
theorem dX4_digest_80 : decode cX4_digest 80 = .ok (.aload_n 0, 1) := by decide +kernel
theorem dX4_digest_81 : decode cX4_digest 81 = .ok (.lload_n 1, 1) := by decide +kernel
theorem dX4_digest_82 : decode cX4_digest 82 = .ok (.iload_n 3, 1) := by decide +kernel
theorem dX4_digest_83 : decode cX4_digest 83 = .ok (.invokevirtual 273, 3) := by decide +kernel
theorem dX4_digest_86 : decode cX4_digest 86 = .ok (.lstore_n 1, 1) := by decide +kernel
theorem dX4_digest_87 : decode cX4_digest 87 = .ok (.iinc 3 1, 3) := by decide +kernel
theorem dX4_digest_90 : decode cX4_digest 90 = .ok (.goto (-18), 3) := by decide +kernel
theorem dX4_digest_93 : decode cX4_digest 93 = .ok (.iconst 0, 1) := by decide +kernel
theorem dX4_digest_94 : decode cX4_digest 94 = .ok (.istore_n 3, 1) := by decide +kernel
theorem dX4_digest_95 : decode cX4_digest 95 = .ok (.iload_n 3, 1) := by decide +kernel
theorem dX4_digest_96 : decode cX4_digest 96 = .ok (.aload_n 0, 1) := by decide +kernel
theorem dX4_digest_97 : decode cX4_digest 97 = .ok (.getfield 67, 3) := by decide +kernel
theorem dX4_digest_100 : decode cX4_digest 100 = .ok (.if_icmp .ge 16, 3) := by decide +kernel
theorem dX4_digest_103 : decode cX4_digest 103 = .ok (.aload_n 0, 1) := by decide +kernel
theorem dX4_digest_104 : decode cX4_digest 104 = .ok (.lload_n 1, 1) := by decide +kernel
theorem dX4_digest_105 : decode cX4_digest 105 = .ok (.iload_n 3, 1) := by decide +kernel
theorem dX4_digest_106 : decode cX4_digest 106 = .ok (.invokevirtual 277, 3) := by decide +kernel
theorem dX4_digest_109 : decode cX4_digest 109 = .ok (.lstore_n 1, 1) := by decide +kernel
theorem dX4_digest_110 : decode cX4_digest 110 = .ok (.iinc 3 1, 3) := by decide +kernel
theorem dX4_digest_113 : decode cX4_digest 113 = .ok (.goto (-18), 3) := by decide +kernel
theorem dX4_digest_116 : decode cX4_digest 116 = .ok (.lload_n 1, 1) := by decide +kernel
theorem dX4_digest_117 : decode cX4_digest 117 = .ok (.lreturn, 1) := by decide +kernel
set_option maxRecDepth 20000 in
theorem ggX4_withArcher_X4_ofArcher : GoodIn wsX4_withArcher wsX4_ofArcher := goodIn_ca (goodIn_ca (goodIn_r _ [7, 8, 9, 10, 11, 12, 13, 14, 15, 16, 17, 18, 19, 20, 21, 6, 22, 23, 24, 25, 26, 27, 28, 29, 30, 31, 80, 81, 82, 83, 84, 85, 86, 87, 88, 89, 90, 91, 92, 93, 94, 95, 96, 97, 98, 99, 100, 101, 102, 103, 104, 105, 106, 107] (by decide +kernel) (by decide +kernel)) (goodIn_sub (fun _ h => List.mem_cons_of_mem _ (List.mem_append_left _ (List.mem_append_right _ h))) (by decide +kernel))) (goodIn_sub (fun _ h => List.mem_cons_of_mem _ (List.mem_append_right _ h)) (by decide +kernel))
set_option maxRecDepth 20000 in
theorem gX4_withArcher_X4_ofArcher : GoodIn wsX4_withArcher (wsV RX4 280 RX4 yX4_ofArcher wsX4_ofArcher) := goodIn_app (goodIn_of _ (by decide +kernel)) ggX4_withArcher_X4_ofArcher
set_option maxRecDepth 20000 in
theorem ggX4_withArcher_X4_speed : GoodIn wsX4_withArcher wsX4_speed := goodIn_ca (goodIn_r _ [35, 12, 36, 19, 20, 21, 6, 22, 23, 24, 25, 26, 37, 38, 39, 40, 41, 42, 43, 44, 45, 46, 80, 81, 82, 83, 84, 85, 86, 87, 88, 89, 90, 91, 92, 93, 94, 95, 96, 97, 98, 99, 100, 101, 102, 103, 104, 105, 106, 107, 108, 109, 110, 111, 112] (by decide +kernel) (by decide +kernel)) (goodIn_sub (fun _ h => List.mem_cons_of_mem _ (List.mem_append_left _ (List.mem_append_right _ h))) (by decide +kernel))
set_option maxRecDepth 20000 in
theorem gX4_withArcher_X4_speed : GoodIn wsX4_withArcher (wsV RX4 286 RX4 yX4_speed wsX4_speed) := goodIn_app (goodIn_of _ (by decide +kernel)) ggX4_withArcher_X4_speed
set_option maxRecDepth 20000 in
theorem ggX4_withArcher_X4_best : GoodIn wsX4_withArcher wsX4_best := goodIn_ca (goodIn_r _ [50, 51, 52, 36, 10, 53, 54, 55, 19, 20, 21, 6, 22, 23, 24, 25, 26, 56, 57, 58, 59, 12, 60, 61, 62, 63, 64, 65, 66, 67, 68, 69, 70, 71, 72, 73, 74, 75, 76, 38, 39, 40, 41, 42, 43, 44, 45, 46, 77, 78, 79, 92, 93, 94, 95, 96, 97, 98, 99, 100, 101, 102, 103, 104, 105, 106, 107, 80, 81, 82, 83, 84, 85, 86, 87, 88, 89, 90, 91, 113, 114, 108, 109, 110, 111, 112] (by decide +kernel) (by decide +kernel)) (goodIn_sub (fun _ h => List.mem_cons_of_mem _ (List.mem_append_left _ (List.mem_append_right _ h))) (by decide +kernel))
set_option maxRecDepth 20000 in
theorem gX4_withArcher_X4_best : GoodIn wsX4_withArcher (wsV RX4 290 RX4 yX4_best wsX4_best) := goodIn_app (goodIn_of _ (by decide +kernel)) ggX4_withArcher_X4_best
theorem dX4_withArcher_0 : decode cX4_withArcher 0 = .ok (.lload_n 1, 1) := by decide +kernel
theorem dX4_withArcher_1 : decode cX4_withArcher 1 = .ok (.lstore 4, 2) := by decide +kernel
theorem dX4_withArcher_3 : decode cX4_withArcher 3 = .ok (.iconst 0, 1) := by decide +kernel
theorem dX4_withArcher_4 : decode cX4_withArcher 4 = .ok (.istore 6, 2) := by decide +kernel
theorem dX4_withArcher_6 : decode cX4_withArcher 6 = .ok (.iload 6, 2) := by decide +kernel
theorem dX4_withArcher_8 : decode cX4_withArcher 8 = .ok (.bipush 10, 2) := by decide +kernel
theorem dX4_withArcher_10 : decode cX4_withArcher 10 = .ok (.if_icmp .gt 26, 3) := by decide +kernel
theorem dX4_withArcher_13 : decode cX4_withArcher 13 = .ok (.lload 4, 2) := by decide +kernel
theorem dX4_withArcher_15 : decode cX4_withArcher 15 = .ok (.ldc2_w 262, 3) := by decide +kernel
theorem dX4_withArcher_18 : decode cX4_withArcher 18 = .ok (.lmul, 1) := by decide +kernel
theorem dX4_withArcher_19 : decode cX4_withArcher 19 = .ok (.aload_n 0, 1) := by decide +kernel
theorem dX4_withArcher_20 : decode cX4_withArcher 20 = .ok (.iload_n 3, 1) := by decide +kernel
theorem dX4_withArcher_21 : decode cX4_withArcher 21 = .ok (.iload 6, 2) := by decide +kernel
theorem dX4_withArcher_23 : decode cX4_withArcher 23 = .ok (.invokevirtual 280, 3) := by decide +kernel
theorem dX4_withArcher_26 : decode cX4_withArcher 26 = .ok (.i2l, 1) := by decide +kernel
theorem dX4_withArcher_27 : decode cX4_withArcher 27 = .ok (.ladd, 1) := by decide +kernel
theorem dX4_withArcher_28 : decode cX4_withArcher 28 = .ok (.lstore 4, 2) := by decide +kernel
theorem dX4_withArcher_30 : decode cX4_withArcher 30 = .ok (.iinc 6 1, 3) := by decide +kernel
theorem dX4_withArcher_33 : decode cX4_withArcher 33 = .ok (.goto (-27), 3) := by decide +kernel
theorem dX4_withArcher_36 : decode cX4_withArcher 36 = .ok (.lload 4, 2) := by decide +kernel
theorem dX4_withArcher_38 : decode cX4_withArcher 38 = .ok (.ldc2_w 262, 3) := by decide +kernel
theorem dX4_withArcher_41 : decode cX4_withArcher 41 = .ok (.lmul, 1) := by decide +kernel
theorem dX4_withArcher_42 : decode cX4_withArcher 42 = .ok (.ldc2_w 284, 3) := by decide +kernel
theorem dX4_withArcher_45 : decode cX4_withArcher 45 = .ok (.aload_n 0, 1) := by decide +kernel
theorem dX4_withArcher_46 : decode cX4_withArcher 46 = .ok (.iload_n 3, 1) := by decide +kernel
theorem dX4_withArcher_47 : decode cX4_withArcher 47 = .ok (.invokevirtual 286, 3) := by decide +kernel
theorem dX4_withArcher_50 : decode cX4_withArcher 50 = .ok (.dmul, 1) := by decide +kernel
theorem dX4_withArcher_51 : decode cX4_withArcher 51 = .ok (.d2l, 1) := by decide +kernel
theorem dX4_withArcher_52 : decode cX4_withArcher 52 = .ok (.ladd, 1) := by decide +kernel
theorem dX4_withArcher_53 : decode cX4_withArcher 53 = .ok (.lstore 4, 2) := by decide +kernel
theorem dX4_withArcher_55 : decode cX4_withArcher 55 = .ok (.lload 4, 2) := by decide +kernel
theorem dX4_withArcher_57 : decode cX4_withArcher 57 = .ok (.ldc2_w 262, 3) := by decide +kernel
theorem dX4_withArcher_60 : decode cX4_withArcher 60 = .ok (.lmul, 1) := by decide +kernel
theorem dX4_withArcher_61 : decode cX4_withArcher 61 = .ok (.aload_n 0, 1) := by decide +kernel
theorem dX4_withArcher_62 : decode cX4_withArcher 62 = .ok (.iload_n 3, 1) := by decide +kernel
theorem dX4_withArcher_63 : decode cX4_withArcher 63 = .ok (.invokevirtual 290, 3) := by decide +kernel
theorem dX4_withArcher_66 : decode cX4_withArcher 66 = .ok (.i2l, 1) := by decide +kernel
theorem dX4_withArcher_67 : decode cX4_withArcher 67 = .ok (.ladd, 1) := by decide +kernel
theorem dX4_withArcher_68 : decode cX4_withArcher 68 = .ok (.lreturn, 1) := by decide +kernel
set_option maxRecDepth 20000 in
theorem ggX4_withQuiver_X4_ofQuiver : GoodIn wsX4_withQuiver wsX4_ofQuiver := goodIn_ca (goodIn_ca (goodIn_r _ [7, 8, 9, 10, 11, 12, 13, 6, 14, 15, 16, 17, 18, 19, 20, 21, 22, 23, 24, 25, 26, 27, 28, 29, 30, 31, 32, 33, 34, 35, 45, 46, 47, 48, 49, 50, 51, 52, 53, 54, 55, 56, 57, 58, 59, 60, 61, 62, 63, 64, 65, 66, 67, 68, 69, 70, 71, 72, 73, 74, 75, 76, 77] (by decide +kernel) (by decide +kernel)) (goodIn_sub (fun _ h => List.mem_cons_of_mem _ (List.mem_append_left _ (List.mem_append_right _ h))) (by decide +kernel))) (goodIn_sub (fun _ h => List.mem_cons_of_mem _ (List.mem_append_right _ h)) (by decide +kernel))
set_option maxRecDepth 20000 in
theorem gX4_withQuiver_X4_ofQuiver : GoodIn wsX4_withQuiver (wsV RX4 293 RX4 yX4_ofQuiver wsX4_ofQuiver) := goodIn_app (goodIn_of _ (by decide +kernel)) ggX4_withQuiver_X4_ofQuiver
set_option maxRecDepth 20000 in
theorem ggX4_withQuiver_X4_hit : GoodIn wsX4_withQuiver wsX4_hit := goodIn_ca (goodIn_r _ [39, 8, 40, 41, 11, 12, 13, 6, 14, 15, 16, 17, 42, 43, 44, 45, 46, 47, 48, 49, 50, 51, 52, 53, 54, 55, 56, 57, 58, 59, 60, 61, 62, 63, 64, 65] (by decide +kernel) (by decide +kernel)) (goodIn_sub (fun _ h => List.mem_cons_of_mem _ (List.mem_append_left _ (List.mem_append_right _ h))) (by decide +kernel))
set_option maxRecDepth 20000 in
theorem gX4_withQuiver_X4_hit : GoodIn wsX4_withQuiver (wsV RX4 298 RX4 yX4_hit wsX4_hit) := goodIn_app (goodIn_of _ (by decide +kernel)) ggX4_withQuiver_X4_hit
theorem dX4_withQuiver_0 : decode cX4_withQuiver 0 = .ok (.lload_n 1, 1) := by decide +kernel
theorem dX4_withQuiver_1 : decode cX4_withQuiver 1 = .ok (.lstore 4, 2) := by decide +kernel
theorem dX4_withQuiver_3 : decode cX4_withQuiver 3 = .ok (.iconst 0, 1) := by decide +kernel
theorem dX4_withQuiver_4 : decode cX4_withQuiver 4 = .ok (.istore 6, 2) := by decide +kernel
theorem dX4_withQuiver_6 : decode cX4_withQuiver 6 = .ok (.iload 6, 2) := by decide +kernel
theorem dX4_withQuiver_8 : decode cX4_withQuiver 8 = .ok (.bipush 6, 2) := by decide +kernel
theorem dX4_withQuiver_10 : decode cX4_withQuiver 10 = .ok (.if_icmp .gt 26, 3) := by decide +kernel
theorem dX4_withQuiver_13 : decode cX4_withQuiver 13 = .ok (.lload 4, 2) := by decide +kernel
theorem dX4_withQuiver_15 : decode cX4_withQuiver 15 = .ok (.ldc2_w 262, 3) := by decide +kernel
theorem dX4_withQuiver_18 : decode cX4_withQuiver 18 = .ok (.lmul, 1) := by decide +kernel
theorem dX4_withQuiver_19 : decode cX4_withQuiver 19 = .ok (.aload_n 0, 1) := by decide +kernel
theorem dX4_withQuiver_20 : decode cX4_withQuiver 20 = .ok (.iload_n 3, 1) := by decide +kernel
theorem dX4_withQuiver_21 : decode cX4_withQuiver 21 = .ok (.iload 6, 2) := by decide +kernel
theorem dX4_withQuiver_23 : decode cX4_withQuiver 23 = .ok (.invokevirtual 293, 3) := by decide +kernel
theorem dX4_withQuiver_26 : decode cX4_withQuiver 26 = .ok (.i2l, 1) := by decide +kernel
theorem dX4_withQuiver_27 : decode cX4_withQuiver 27 = .ok (.ladd, 1) := by decide +kernel
theorem dX4_withQuiver_28 : decode cX4_withQuiver 28 = .ok (.lstore 4, 2) := by decide +kernel
theorem dX4_withQuiver_30 : decode cX4_withQuiver 30 = .ok (.iinc 6 1, 3) := by decide +kernel
theorem dX4_withQuiver_33 : decode cX4_withQuiver 33 = .ok (.goto (-27), 3) := by decide +kernel
theorem dX4_withQuiver_36 : decode cX4_withQuiver 36 = .ok (.iconst 0, 1) := by decide +kernel
theorem dX4_withQuiver_37 : decode cX4_withQuiver 37 = .ok (.istore 6, 2) := by decide +kernel
theorem dX4_withQuiver_39 : decode cX4_withQuiver 39 = .ok (.iload 6, 2) := by decide +kernel
theorem dX4_withQuiver_41 : decode cX4_withQuiver 41 = .ok (.bipush 12, 2) := by decide +kernel
theorem dX4_withQuiver_43 : decode cX4_withQuiver 43 = .ok (.if_icmp .ge 53, 3) := by decide +kernel
theorem dX4_withQuiver_46 : decode cX4_withQuiver 46 = .ok (.lload 4, 2) := by decide +kernel
theorem dX4_withQuiver_48 : decode cX4_withQuiver 48 = .ok (.ldc2_w 262, 3) := by decide +kernel
theorem dX4_withQuiver_51 : decode cX4_withQuiver 51 = .ok (.lmul, 1) := by decide +kernel
theorem dX4_withQuiver_52 : decode cX4_withQuiver 52 = .ok (.ldc2_w 296, 3) := by decide +kernel
theorem dX4_withQuiver_55 : decode cX4_withQuiver 55 = .ok (.aload_n 0, 1) := by decide +kernel
theorem dX4_withQuiver_56 : decode cX4_withQuiver 56 = .ok (.iload_n 3, 1) := by decide +kernel
theorem dX4_withQuiver_57 : decode cX4_withQuiver 57 = .ok (.iload 6, 2) := by decide +kernel
theorem dX4_withQuiver_59 : decode cX4_withQuiver 59 = .ok (.iconst 0, 1) := by decide +kernel
theorem dX4_withQuiver_60 : decode cX4_withQuiver 60 = .ok (.invokevirtual 298, 3) := by decide +kernel
theorem dX4_withQuiver_63 : decode cX4_withQuiver 63 = .ok (.dmul, 1) := by decide +kernel
theorem dX4_withQuiver_64 : decode cX4_withQuiver 64 = .ok (.d2l, 1) := by decide +kernel
theorem dX4_withQuiver_65 : decode cX4_withQuiver 65 = .ok (.ladd, 1) := by decide +kernel
theorem dX4_withQuiver_66 : decode cX4_withQuiver 66 = .ok (.lstore 4, 2) := by decide +kernel
theorem dX4_withQuiver_68 : decode cX4_withQuiver 68 = .ok (.lload 4, 2) := by decide +kernel
theorem dX4_withQuiver_70 : decode cX4_withQuiver 70 = .ok (.ldc2_w 262, 3) := by decide +kernel
theorem dX4_withQuiver_73 : decode cX4_withQuiver 73 = .ok (.lmul, 1) := by decide +kernel
theorem dX4_withQuiver_74 : decode cX4_withQuiver 74 = .ok (.ldc2_w 296, 3) := by decide +kernel
theorem dX4_withQuiver_77 : decode cX4_withQuiver 77 = .ok (.aload_n 0, 1) := by decide +kernel
theorem dX4_withQuiver_78 : decode cX4_withQuiver 78 = .ok (.iload_n 3, 1) := by decide +kernel
theorem dX4_withQuiver_79 : decode cX4_withQuiver 79 = .ok (.iload 6, 2) := by decide +kernel
theorem dX4_withQuiver_81 : decode cX4_withQuiver 81 = .ok (.iconst 1, 1) := by decide +kernel
theorem dX4_withQuiver_82 : decode cX4_withQuiver 82 = .ok (.invokevirtual 298, 3) := by decide +kernel
theorem dX4_withQuiver_85 : decode cX4_withQuiver 85 = .ok (.dmul, 1) := by decide +kernel
theorem dX4_withQuiver_86 : decode cX4_withQuiver 86 = .ok (.d2l, 1) := by decide +kernel
theorem dX4_withQuiver_87 : decode cX4_withQuiver 87 = .ok (.ladd, 1) := by decide +kernel
theorem dX4_withQuiver_88 : decode cX4_withQuiver 88 = .ok (.lstore 4, 2) := by decide +kernel
theorem dX4_withQuiver_90 : decode cX4_withQuiver 90 = .ok (.iinc 6 1, 3) := by decide +kernel
theorem dX4_withQuiver_93 : decode cX4_withQuiver 93 = .ok (.goto (-54), 3) := by decide +kernel
theorem dX4_withQuiver_96 : decode cX4_withQuiver 96 = .ok (.lload 4, 2) := by decide +kernel
theorem dX4_withQuiver_98 : decode cX4_withQuiver 98 = .ok (.lreturn, 1) := by decide +kernel
theorem dX4_needBetween_0 : decode cX4_needBetween 0 = .ok (.iload_n 0, 1) := by decide +kernel
theorem dX4_needBetween_1 : decode cX4_needBetween 1 = .ok (.iload_n 1, 1) := by decide +kernel
theorem dX4_needBetween_2 : decode cX4_needBetween 2 = .ok (.if_icmp .lt 8, 3) := by decide +kernel
theorem dX4_needBetween_5 : decode cX4_needBetween 5 = .ok (.iload_n 0, 1) := by decide +kernel
theorem dX4_needBetween_6 : decode cX4_needBetween 6 = .ok (.iload_n 2, 1) := by decide +kernel
theorem dX4_needBetween_7 : decode cX4_needBetween 7 = .ok (.if_icmp .le 14, 3) := by decide +kernel
theorem dX4_needBetween_10 : decode cX4_needBetween 10 = .ok (.new 176, 3) := by decide +kernel
theorem dX4_needBetween_13 : decode cX4_needBetween 13 = .ok (.dup, 1) := by decide +kernel
theorem dX4_needBetween_14 : decode cX4_needBetween 14 = .ok (.ldc_w 302, 3) := by decide +kernel
theorem dX4_needBetween_17 : decode cX4_needBetween 17 = .ok (.invokespecial 180, 3) := by decide +kernel
theorem dX4_needBetween_20 : decode cX4_needBetween 20 = .ok (.athrow, 1) := by decide +kernel
theorem dX4_needBetween_21 : decode cX4_needBetween 21 = .ok (.return_, 1) := by decide +kernel
theorem dX4_archerNumbered_0 : decode cX4_archerNumbered 0 = .ok (.iload_n 1, 1) := by decide +kernel
theorem dX4_archerNumbered_1 : decode cX4_archerNumbered 1 = .ok (.ifCond .lt 11, 3) := by decide +kernel
theorem dX4_archerNumbered_4 : decode cX4_archerNumbered 4 = .ok (.iload_n 1, 1) := by decide +kernel
theorem dX4_archerNumbered_5 : decode cX4_archerNumbered 5 = .ok (.aload_n 0, 1) := by decide +kernel
theorem dX4_archerNumbered_6 : decode cX4_archerNumbered 6 = .ok (.getfield 51, 3) := by decide +kernel
theorem dX4_archerNumbered_9 : decode cX4_archerNumbered 9 = .ok (.if_icmp .lt 14, 3) := by decide +kernel
theorem dX4_archerNumbered_12 : decode cX4_archerNumbered 12 = .ok (.new 304, 3) := by decide +kernel
theorem dX4_archerNumbered_15 : decode cX4_archerNumbered 15 = .ok (.dup, 1) := by decide +kernel
theorem dX4_archerNumbered_16 : decode cX4_archerNumbered 16 = .ok (.ldc_w 306, 3) := by decide +kernel
theorem dX4_archerNumbered_19 : decode cX4_archerNumbered 19 = .ok (.invokespecial 308, 3) := by decide +kernel
theorem dX4_archerNumbered_22 : decode cX4_archerNumbered 22 = .ok (.athrow, 1) := by decide +kernel
theorem dX4_archerNumbered_23 : decode cX4_archerNumbered 23 = .ok (.aload_n 0, 1) := by decide +kernel
theorem dX4_archerNumbered_24 : decode cX4_archerNumbered 24 = .ok (.getfield 11, 3) := by decide +kernel
theorem dX4_archerNumbered_27 : decode cX4_archerNumbered 27 = .ok (.iload_n 1, 1) := by decide +kernel
theorem dX4_archerNumbered_28 : decode cX4_archerNumbered 28 = .ok (.aaload, 1) := by decide +kernel
theorem dX4_archerNumbered_29 : decode cX4_archerNumbered 29 = .ok (.areturn, 1) := by decide +kernel
theorem dX4_needQuiver_0 : decode cX4_needQuiver 0 = .ok (.iload_n 1, 1) := by decide +kernel
theorem dX4_needQuiver_1 : decode cX4_needQuiver 1 = .ok (.ifCond .lt 11, 3) := by decide +kernel
theorem dX4_needQuiver_4 : decode cX4_needQuiver 4 = .ok (.iload_n 1, 1) := by decide +kernel
theorem dX4_needQuiver_5 : decode cX4_needQuiver 5 = .ok (.aload_n 0, 1) := by decide +kernel
theorem dX4_needQuiver_6 : decode cX4_needQuiver 6 = .ok (.getfield 67, 3) := by decide +kernel
theorem dX4_needQuiver_9 : decode cX4_needQuiver 9 = .ok (.if_icmp .lt 14, 3) := by decide +kernel
theorem dX4_needQuiver_12 : decode cX4_needQuiver 12 = .ok (.new 304, 3) := by decide +kernel
theorem dX4_needQuiver_15 : decode cX4_needQuiver 15 = .ok (.dup, 1) := by decide +kernel
theorem dX4_needQuiver_16 : decode cX4_needQuiver 16 = .ok (.ldc_w 309, 3) := by decide +kernel
theorem dX4_needQuiver_19 : decode cX4_needQuiver 19 = .ok (.invokespecial 308, 3) := by decide +kernel
theorem dX4_needQuiver_22 : decode cX4_needQuiver 22 = .ok (.athrow, 1) := by decide +kernel
theorem dX4_needQuiver_23 : decode cX4_needQuiver 23 = .ok (.return_, 1) := by decide +kernel
theorem dX4_needArrow_0 : decode cX4_needArrow 0 = .ok (.iload_n 0, 1) := by decide +kernel
theorem dX4_needArrow_1 : decode cX4_needArrow 1 = .ok (.ifCond .lt 9, 3) := by decide +kernel
theorem dX4_needArrow_4 : decode cX4_needArrow 4 = .ok (.iload_n 0, 1) := by decide +kernel
theorem dX4_needArrow_5 : decode cX4_needArrow 5 = .ok (.bipush 12, 2) := by decide +kernel
theorem dX4_needArrow_7 : decode cX4_needArrow 7 = .ok (.if_icmp .lt 14, 3) := by decide +kernel
theorem dX4_needArrow_10 : decode cX4_needArrow 10 = .ok (.new 304, 3) := by decide +kernel
theorem dX4_needArrow_13 : decode cX4_needArrow 13 = .ok (.dup, 1) := by decide +kernel
theorem dX4_needArrow_14 : decode cX4_needArrow 14 = .ok (.ldc_w 311, 3) := by decide +kernel
theorem dX4_needArrow_17 : decode cX4_needArrow 17 = .ok (.invokespecial 308, 3) := by decide +kernel
theorem dX4_needArrow_20 : decode cX4_needArrow 20 = .ok (.athrow, 1) := by decide +kernel
theorem dX4_needArrow_21 : decode cX4_needArrow 21 = .ok (.return_, 1) := by decide +kernel
theorem dX4_quiverOf_0 : decode cX4_quiverOf 0 = .ok (.aload_n 1, 1) := by decide +kernel
theorem dX4_quiverOf_1 : decode cX4_quiverOf 1 = .ok (.getfield 96, 3) := by decide +kernel
theorem dX4_quiverOf_4 : decode cX4_quiverOf 4 = .ok (.iconst (-1), 1) := by decide +kernel
theorem dX4_quiverOf_5 : decode cX4_quiverOf 5 = .ok (.if_icmp .ne 14, 3) := by decide +kernel
theorem dX4_quiverOf_8 : decode cX4_quiverOf 8 = .ok (.new 54, 3) := by decide +kernel
theorem dX4_quiverOf_11 : decode cX4_quiverOf 11 = .ok (.dup, 1) := by decide +kernel
theorem dX4_quiverOf_12 : decode cX4_quiverOf 12 = .ok (.ldc_w 313, 3) := by decide +kernel
theorem dX4_quiverOf_15 : decode cX4_quiverOf 15 = .ok (.invokespecial 58, 3) := by decide +kernel
theorem dX4_quiverOf_18 : decode cX4_quiverOf 18 = .ok (.athrow, 1) := by decide +kernel
theorem dX4_quiverOf_19 : decode cX4_quiverOf 19 = .ok (.aload_n 0, 1) := by decide +kernel
theorem dX4_quiverOf_20 : decode cX4_quiverOf 20 = .ok (.getfield 17, 3) := by decide +kernel
theorem dX4_quiverOf_23 : decode cX4_quiverOf 23 = .ok (.aload_n 1, 1) := by decide +kernel
theorem dX4_quiverOf_24 : decode cX4_quiverOf 24 = .ok (.getfield 96, 3) := by decide +kernel
theorem dX4_quiverOf_27 : decode cX4_quiverOf 27 = .ok (.aaload, 1) := by decide +kernel
theorem dX4_quiverOf_28 : decode cX4_quiverOf 28 = .ok (.areturn, 1) := by decide +kernel
theorem dX4_holderOf_0 : decode cX4_holderOf 0 = .ok (.iconst 0, 1) := by decide +kernel
theorem dX4_holderOf_1 : decode cX4_holderOf 1 = .ok (.istore_n 2, 1) := by decide +kernel
theorem dX4_holderOf_2 : decode cX4_holderOf 2 = .ok (.iload_n 2, 1) := by decide +kernel
theorem dX4_holderOf_3 : decode cX4_holderOf 3 = .ok (.aload_n 0, 1) := by decide +kernel
theorem dX4_holderOf_4 : decode cX4_holderOf 4 = .ok (.getfield 51, 3) := by decide +kernel
theorem dX4_holderOf_7 : decode cX4_holderOf 7 = .ok (.if_icmp .ge 24, 3) := by decide +kernel
theorem dX4_holderOf_10 : decode cX4_holderOf 10 = .ok (.aload_n 0, 1) := by decide +kernel
theorem dX4_holderOf_11 : decode cX4_holderOf 11 = .ok (.getfield 11, 3) := by decide +kernel
theorem dX4_holderOf_14 : decode cX4_holderOf 14 = .ok (.iload_n 2, 1) := by decide +kernel
theorem dX4_holderOf_15 : decode cX4_holderOf 15 = .ok (.aaload, 1) := by decide +kernel
theorem dX4_holderOf_16 : decode cX4_holderOf 16 = .ok (.getfield 96, 3) := by decide +kernel
theorem dX4_holderOf_19 : decode cX4_holderOf 19 = .ok (.iload_n 1, 1) := by decide +kernel
theorem dX4_holderOf_20 : decode cX4_holderOf 20 = .ok (.if_icmp .ne 5, 3) := by decide +kernel
theorem dX4_holderOf_23 : decode cX4_holderOf 23 = .ok (.iload_n 2, 1) := by decide +kernel
theorem dX4_holderOf_24 : decode cX4_holderOf 24 = .ok (.ireturn, 1) := by decide +kernel
theorem dX4_holderOf_25 : decode cX4_holderOf 25 = .ok (.iinc 2 1, 3) := by decide +kernel
theorem dX4_holderOf_28 : decode cX4_holderOf 28 = .ok (.goto (-26), 3) := by decide +kernel
theorem dX4_holderOf_31 : decode cX4_holderOf 31 = .ok (.iconst (-1), 1) := by decide +kernel
theorem dX4_holderOf_32 : decode cX4_holderOf 32 = .ok (.ireturn, 1) := by decide +kernel
set_option maxRecDepth 20000 in
theorem ggX4_stuckArrows_X3_setOf : GoodIn wsX4_stuckArrows wsX3_setOf := goodIn_r _ [7, 8, 32, 33, 34, 35, 36] (by decide +kernel) (by decide +kernel)
set_option maxRecDepth 20000 in
theorem gX4_stuckArrows_X3_setOf : GoodIn wsX4_stuckArrows (wsV RX4 223 RX3 yX3_setOf wsX3_setOf) := goodIn_app (goodIn_of _ (by decide +kernel)) ggX4_stuckArrows_X3_setOf
set_option maxRecDepth 20000 in
theorem ggX4_stuckArrows_J6_bitCount_0f7a4 : GoodIn wsX4_stuckArrows wsJ6_bitCount_0f7a4 := goodIn_r _ [12, 13, 14, 15] (by decide +kernel) (by decide +kernel)
set_option maxRecDepth 20000 in
theorem gX4_stuckArrows_J6_bitCount_0f7a4 : GoodIn wsX4_stuckArrows (va_wsS RX4 315 yJ6_bitCount_0f7a4 wsJ6_bitCount_0f7a4) := goodIn_app (goodIn_of _ (by decide +kernel)) ggX4_stuckArrows_J6_bitCount_0f7a4
theorem dX4_stuckArrows_0 : decode cX4_stuckArrows 0 = .ok (.iconst 0, 1) := by decide +kernel
theorem dX4_stuckArrows_1 : decode cX4_stuckArrows 1 = .ok (.istore_n 1, 1) := by decide +kernel
theorem dX4_stuckArrows_2 : decode cX4_stuckArrows 2 = .ok (.iconst 0, 1) := by decide +kernel
theorem dX4_stuckArrows_3 : decode cX4_stuckArrows 3 = .ok (.istore_n 2, 1) := by decide +kernel
theorem dX4_stuckArrows_4 : decode cX4_stuckArrows 4 = .ok (.iload_n 2, 1) := by decide +kernel
theorem dX4_stuckArrows_5 : decode cX4_stuckArrows 5 = .ok (.aload_n 0, 1) := by decide +kernel
theorem dX4_stuckArrows_6 : decode cX4_stuckArrows 6 = .ok (.getfield 67, 3) := by decide +kernel
theorem dX4_stuckArrows_9 : decode cX4_stuckArrows 9 = .ok (.if_icmp .ge 25, 3) := by decide +kernel
theorem dX4_stuckArrows_12 : decode cX4_stuckArrows 12 = .ok (.iload_n 1, 1) := by decide +kernel
theorem dX4_stuckArrows_13 : decode cX4_stuckArrows 13 = .ok (.aload_n 0, 1) := by decide +kernel
theorem dX4_stuckArrows_14 : decode cX4_stuckArrows 14 = .ok (.getfield 17, 3) := by decide +kernel
theorem dX4_stuckArrows_17 : decode cX4_stuckArrows 17 = .ok (.iload_n 2, 1) := by decide +kernel
theorem dX4_stuckArrows_18 : decode cX4_stuckArrows 18 = .ok (.aaload, 1) := by decide +kernel
theorem dX4_stuckArrows_19 : decode cX4_stuckArrows 19 = .ok (.iconst 1, 1) := by decide +kernel
theorem dX4_stuckArrows_20 : decode cX4_stuckArrows 20 = .ok (.invokevirtual 223, 3) := by decide +kernel
theorem dX4_stuckArrows_23 : decode cX4_stuckArrows 23 = .ok (.invokestatic 315, 3) := by decide +kernel
theorem dX4_stuckArrows_26 : decode cX4_stuckArrows 26 = .ok (.iadd, 1) := by decide +kernel
theorem dX4_stuckArrows_27 : decode cX4_stuckArrows 27 = .ok (.istore_n 1, 1) := by decide +kernel
theorem dX4_stuckArrows_28 : decode cX4_stuckArrows 28 = .ok (.iinc 2 1, 3) := by decide +kernel
theorem dX4_stuckArrows_31 : decode cX4_stuckArrows 31 = .ok (.goto (-27), 3) := by decide +kernel
theorem dX4_stuckArrows_34 : decode cX4_stuckArrows 34 = .ok (.iload_n 1, 1) := by decide +kernel
theorem dX4_stuckArrows_35 : decode cX4_stuckArrows 35 = .ok (.ireturn, 1) := by decide +kernel
set_option maxRecDepth 20000 in
theorem ggX4_splitWhatIsHit_X3_firstHitBy : GoodIn wsX4_splitWhatIsHit wsX3_firstHitBy := goodIn_r _ [10, 11, 12, 13, 14, 15, 16, 17, 18, 19, 36, 37, 38, 39, 40, 41, 42] (by decide +kernel) (by decide +kernel)
set_option maxRecDepth 20000 in
theorem gX4_splitWhatIsHit_X3_firstHitBy : GoodIn wsX4_splitWhatIsHit (wsV RX4 320 RX3 yX3_firstHitBy wsX3_firstHitBy) := goodIn_app (goodIn_of _ (by decide +kernel)) ggX4_splitWhatIsHit_X3_firstHitBy
theorem dX4_splitWhatIsHit_0 : decode cX4_splitWhatIsHit 0 = .ok (.iconst 0, 1) := by decide +kernel
theorem dX4_splitWhatIsHit_1 : decode cX4_splitWhatIsHit 1 = .ok (.istore_n 1, 1) := by decide +kernel
theorem dX4_splitWhatIsHit_2 : decode cX4_splitWhatIsHit 2 = .ok (.iload_n 1, 1) := by decide +kernel
theorem dX4_splitWhatIsHit_3 : decode cX4_splitWhatIsHit 3 = .ok (.aload_n 0, 1) := by decide +kernel
theorem dX4_splitWhatIsHit_4 : decode cX4_splitWhatIsHit 4 = .ok (.getfield 67, 3) := by decide +kernel
theorem dX4_splitWhatIsHit_7 : decode cX4_splitWhatIsHit 7 = .ok (.if_icmp .ge 51, 3) := by decide +kernel
theorem dX4_splitWhatIsHit_10 : decode cX4_splitWhatIsHit 10 = .ok (.aload_n 0, 1) := by decide +kernel
theorem dX4_splitWhatIsHit_11 : decode cX4_splitWhatIsHit 11 = .ok (.getfield 17, 3) := by decide +kernel
theorem dX4_splitWhatIsHit_14 : decode cX4_splitWhatIsHit 14 = .ok (.iload_n 1, 1) := by decide +kernel
theorem dX4_splitWhatIsHit_15 : decode cX4_splitWhatIsHit 15 = .ok (.aaload, 1) := by decide +kernel
theorem dX4_splitWhatIsHit_16 : decode cX4_splitWhatIsHit 16 = .ok (.aload_n 0, 1) := by decide +kernel
theorem dX4_splitWhatIsHit_17 : decode cX4_splitWhatIsHit 17 = .ok (.getfield 41, 3) := by decide +kernel
theorem dX4_splitWhatIsHit_20 : decode cX4_splitWhatIsHit 20 = .ok (.invokevirtual 320, 3) := by decide +kernel
theorem dX4_splitWhatIsHit_23 : decode cX4_splitWhatIsHit 23 = .ok (.istore_n 2, 1) := by decide +kernel
theorem dX4_splitWhatIsHit_24 : decode cX4_splitWhatIsHit 24 = .ok (.iload_n 2, 1) := by decide +kernel
theorem dX4_splitWhatIsHit_25 : decode cX4_splitWhatIsHit 25 = .ok (.iconst (-1), 1) := by decide +kernel
theorem dX4_splitWhatIsHit_26 : decode cX4_splitWhatIsHit 26 = .ok (.if_icmp .eq 26, 3) := by decide +kernel
theorem dX4_splitWhatIsHit_29 : decode cX4_splitWhatIsHit 29 = .ok (.aload_n 0, 1) := by decide +kernel
theorem dX4_splitWhatIsHit_30 : decode cX4_splitWhatIsHit 30 = .ok (.getfield 17, 3) := by decide +kernel
theorem dX4_splitWhatIsHit_33 : decode cX4_splitWhatIsHit 33 = .ok (.iload_n 1, 1) := by decide +kernel
theorem dX4_splitWhatIsHit_34 : decode cX4_splitWhatIsHit 34 = .ok (.aaload, 1) := by decide +kernel
theorem dX4_splitWhatIsHit_35 : decode cX4_splitWhatIsHit 35 = .ok (.getfield 130, 3) := by decide +kernel
theorem dX4_splitWhatIsHit_38 : decode cX4_splitWhatIsHit 38 = .ok (.iload_n 2, 1) := by decide +kernel
theorem dX4_splitWhatIsHit_39 : decode cX4_splitWhatIsHit 39 = .ok (.iconst 3, 1) := by decide +kernel
theorem dX4_splitWhatIsHit_40 : decode cX4_splitWhatIsHit 40 = .ok (.iastore, 1) := by decide +kernel
theorem dX4_splitWhatIsHit_41 : decode cX4_splitWhatIsHit 41 = .ok (.aload_n 0, 1) := by decide +kernel
theorem dX4_splitWhatIsHit_42 : decode cX4_splitWhatIsHit 42 = .ok (.dup, 1) := by decide +kernel
theorem dX4_splitWhatIsHit_43 : decode cX4_splitWhatIsHit 43 = .ok (.getfield 233, 3) := by decide +kernel
theorem dX4_splitWhatIsHit_46 : decode cX4_splitWhatIsHit 46 = .ok (.iconst 1, 1) := by decide +kernel
theorem dX4_splitWhatIsHit_47 : decode cX4_splitWhatIsHit 47 = .ok (.iadd, 1) := by decide +kernel
theorem dX4_splitWhatIsHit_48 : decode cX4_splitWhatIsHit 48 = .ok (.putfield 233, 3) := by decide +kernel
theorem dX4_splitWhatIsHit_51 : decode cX4_splitWhatIsHit 51 = .ok (.return_, 1) := by decide +kernel
theorem dX4_splitWhatIsHit_52 : decode cX4_splitWhatIsHit 52 = .ok (.iinc 1 1, 3) := by decide +kernel
theorem dX4_splitWhatIsHit_55 : decode cX4_splitWhatIsHit 55 = .ok (.goto (-53), 3) := by decide +kernel
theorem dX4_splitWhatIsHit_58 : decode cX4_splitWhatIsHit 58 = .ok (.return_, 1) := by decide +kernel
set_option maxRecDepth 20000 in
theorem ggX4_countForMatch_X1_farness : GoodIn wsX4_countForMatch wsX1_farness := goodIn_r _ [11, 12, 13, 85, 86] (by decide +kernel) (by decide +kernel)
set_option maxRecDepth 20000 in
theorem gX4_countForMatch_X1_farness : GoodIn wsX4_countForMatch (wsV RX4 324 RX1 yX1_farness wsX1_farness) := goodIn_app (goodIn_of _ (by decide +kernel)) ggX4_countForMatch_X1_farness
set_option maxRecDepth 20000 in
theorem ggX4_countForMatch_X2_count : GoodIn wsX4_countForMatch wsX2_count := goodIn_r _ [18, 19, 20, 21, 22, 23, 24, 25, 17, 26, 27, 28, 29, 30, 31, 32, 33, 34, 35, 36, 37, 38, 39, 40, 41, 42, 43, 44, 45, 46, 63, 64, 65, 66, 67, 68, 69, 70, 71, 72] (by decide +kernel) (by decide +kernel)
set_option maxRecDepth 20000 in
theorem gX4_countForMatch_X2_count : GoodIn wsX4_countForMatch (wsV RX4 328 RX2 yX2_count wsX2_count) := goodIn_app (goodIn_of _ (by decide +kernel)) ggX4_countForMatch_X2_count
theorem dX4_countForMatch_0 : decode cX4_countForMatch 0 = .ok (.aload_n 0, 1) := by decide +kernel
theorem dX4_countForMatch_1 : decode cX4_countForMatch 1 = .ok (.getfield 31, 3) := by decide +kernel
theorem dX4_countForMatch_4 : decode cX4_countForMatch 4 = .ok (.iload_n 1, 1) := by decide +kernel
theorem dX4_countForMatch_5 : decode cX4_countForMatch 5 = .ok (.aload_n 0, 1) := by decide +kernel
theorem dX4_countForMatch_6 : decode cX4_countForMatch 6 = .ok (.getfield 41, 3) := by decide +kernel
theorem dX4_countForMatch_9 : decode cX4_countForMatch 9 = .ok (.invokevirtual 324, 3) := by decide +kernel
theorem dX4_countForMatch_12 : decode cX4_countForMatch 12 = .ok (.invokevirtual 328, 3) := by decide +kernel
theorem dX4_countForMatch_15 : decode cX4_countForMatch 15 = .ok (.istore_n 2, 1) := by decide +kernel
theorem dX4_countForMatch_16 : decode cX4_countForMatch 16 = .ok (.iload_n 2, 1) := by decide +kernel
theorem dX4_countForMatch_17 : decode cX4_countForMatch 17 = .ok (.iconst (-1), 1) := by decide +kernel
theorem dX4_countForMatch_18 : decode cX4_countForMatch 18 = .ok (.if_icmp .eq 31, 3) := by decide +kernel
theorem dX4_countForMatch_21 : decode cX4_countForMatch 21 = .ok (.aload_n 0, 1) := by decide +kernel
theorem dX4_countForMatch_22 : decode cX4_countForMatch 22 = .ok (.getfield 31, 3) := by decide +kernel
theorem dX4_countForMatch_25 : decode cX4_countForMatch 25 = .ok (.iconst 0, 1) := by decide +kernel
theorem dX4_countForMatch_26 : decode cX4_countForMatch 26 = .ok (.putfield 86, 3) := by decide +kernel
theorem dX4_countForMatch_29 : decode cX4_countForMatch 29 = .ok (.aload_n 0, 1) := by decide +kernel
theorem dX4_countForMatch_30 : decode cX4_countForMatch 30 = .ok (.iload_n 2, 1) := by decide +kernel
theorem dX4_countForMatch_31 : decode cX4_countForMatch 31 = .ok (.putfield 35, 3) := by decide +kernel
theorem dX4_countForMatch_34 : decode cX4_countForMatch 34 = .ok (.aload_n 0, 1) := by decide +kernel
theorem dX4_countForMatch_35 : decode cX4_countForMatch 35 = .ok (.getfield 11, 3) := by decide +kernel
theorem dX4_countForMatch_38 : decode cX4_countForMatch 38 = .ok (.iload_n 2, 1) := by decide +kernel
theorem dX4_countForMatch_39 : decode cX4_countForMatch 39 = .ok (.aaload, 1) := by decide +kernel
theorem dX4_countForMatch_40 : decode cX4_countForMatch 40 = .ok (.dup, 1) := by decide +kernel
theorem dX4_countForMatch_41 : decode cX4_countForMatch 41 = .ok (.getfield 207, 3) := by decide +kernel
theorem dX4_countForMatch_44 : decode cX4_countForMatch 44 = .ok (.iconst 1, 1) := by decide +kernel
theorem dX4_countForMatch_45 : decode cX4_countForMatch 45 = .ok (.iadd, 1) := by decide +kernel
theorem dX4_countForMatch_46 : decode cX4_countForMatch 46 = .ok (.putfield 207, 3) := by decide +kernel
theorem dX4_countForMatch_49 : decode cX4_countForMatch 49 = .ok (.return_, 1) := by decide +kernel
theorem dX4_size_0 : decode cX4_size 0 = .ok (.dload_n 0, 1) := by decide +kernel
theorem dX4_size_1 : decode cX4_size 1 = .ok (.dconst 0, 1) := by decide +kernel
theorem dX4_size_2 : decode cX4_size 2 = .ok (.dcmp .g, 1) := by decide +kernel
theorem dX4_size_3 : decode cX4_size 3 = .ok (.ifCond .ge 8, 3) := by decide +kernel
theorem dX4_size_6 : decode cX4_size 6 = .ok (.dload_n 0, 1) := by decide +kernel
theorem dX4_size_7 : decode cX4_size 7 = .ok (.dneg, 1) := by decide +kernel
theorem dX4_size_8 : decode cX4_size 8 = .ok (.goto 4, 3) := by decide +kernel
theorem dX4_size_11 : decode cX4_size 11 = .ok (.dload_n 0, 1) := by decide +kernel
theorem dX4_size_12 : decode cX4_size 12 = .ok (.dreturn, 1) := by decide +kernel
theorem dX5_init_0 : decode cX5_init 0 = .ok (.aload_n 0, 1) := by decide +kernel
theorem dX5_init_1 : decode cX5_init 1 = .ok (.invokespecial 3, 3) := by decide +kernel
theorem dX5_init_4 : decode cX5_init 4 = .ok (.aload_n 0, 1) := by decide +kernel
theorem dX5_init_5 : decode cX5_init 5 = .ok (.iconst (-1), 1) := by decide +kernel
theorem dX5_init_6 : decode cX5_init 6 = .ok (.putfield 9, 3) := by decide +kernel
theorem dX5_init_9 : decode cX5_init 9 = .ok (.return_, 1) := by decide +kernel
theorem dX6_init_0 : decode cX6_init 0 = .ok (.aload_n 0, 1) := by decide +kernel
theorem dX6_init_1 : decode cX6_init 1 = .ok (.invokespecial 3, 3) := by decide +kernel
theorem dX6_init_4 : decode cX6_init 4 = .ok (.aload_n 0, 1) := by decide +kernel
theorem dX6_init_5 : decode cX6_init 5 = .ok (.bipush 12, 2) := by decide +kernel
theorem dX6_init_7 : decode cX6_init 7 = .ok (.newarray .int, 2) := by decide +kernel
theorem dX6_init_9 : decode cX6_init 9 = .ok (.putfield 9, 3) := by decide +kernel
theorem dX6_init_12 : decode cX6_init 12 = .ok (.aload_n 0, 1) := by decide +kernel
theorem dX6_init_13 : decode cX6_init 13 = .ok (.bipush 12, 2) := by decide +kernel
theorem dX6_init_15 : decode cX6_init 15 = .ok (.newarray .double, 2) := by decide +kernel
theorem dX6_init_17 : decode cX6_init 17 = .ok (.putfield 15, 3) := by decide +kernel
theorem dX6_init_20 : decode cX6_init 20 = .ok (.aload_n 0, 1) := by decide +kernel
theorem dX6_init_21 : decode cX6_init 21 = .ok (.bipush 12, 2) := by decide +kernel
theorem dX6_init_23 : decode cX6_init 23 = .ok (.newarray .double, 2) := by decide +kernel
theorem dX6_init_25 : decode cX6_init 25 = .ok (.putfield 19, 3) := by decide +kernel
theorem dX6_init_28 : decode cX6_init 28 = .ok (.return_, 1) := by decide +kernel
theorem dX6_set_0 : decode cX6_set 0 = .ok (.iconst 0, 1) := by decide +kernel
theorem dX6_set_1 : decode cX6_set 1 = .ok (.istore_n 2, 1) := by decide +kernel
theorem dX6_set_2 : decode cX6_set 2 = .ok (.iconst 0, 1) := by decide +kernel
theorem dX6_set_3 : decode cX6_set 3 = .ok (.istore_n 3, 1) := by decide +kernel
theorem dX6_set_4 : decode cX6_set 4 = .ok (.iload_n 3, 1) := by decide +kernel
theorem dX6_set_5 : decode cX6_set 5 = .ok (.bipush 12, 2) := by decide +kernel
theorem dX6_set_7 : decode cX6_set 7 = .ok (.if_icmp .ge 29, 3) := by decide +kernel
theorem dX6_set_10 : decode cX6_set 10 = .ok (.iload_n 2, 1) := by decide +kernel
theorem dX6_set_11 : decode cX6_set 11 = .ok (.aload_n 0, 1) := by decide +kernel
theorem dX6_set_12 : decode cX6_set 12 = .ok (.getfield 9, 3) := by decide +kernel
theorem dX6_set_15 : decode cX6_set 15 = .ok (.iload_n 3, 1) := by decide +kernel
theorem dX6_set_16 : decode cX6_set 16 = .ok (.iaload, 1) := by decide +kernel
theorem dX6_set_17 : decode cX6_set 17 = .ok (.iload_n 1, 1) := by decide +kernel
theorem dX6_set_18 : decode cX6_set 18 = .ok (.if_icmp .ne 9, 3) := by decide +kernel
theorem dX6_set_21 : decode cX6_set 21 = .ok (.iconst 1, 1) := by decide +kernel
theorem dX6_set_22 : decode cX6_set 22 = .ok (.iload_n 3, 1) := by decide +kernel
theorem dX6_set_23 : decode cX6_set 23 = .ok (.ishl, 1) := by decide +kernel
theorem dX6_set_24 : decode cX6_set 24 = .ok (.goto 4, 3) := by decide +kernel
theorem dX6_set_27 : decode cX6_set 27 = .ok (.iconst 0, 1) := by decide +kernel
theorem dX6_set_28 : decode cX6_set 28 = .ok (.ior, 1) := by decide +kernel
theorem dX6_set_29 : decode cX6_set 29 = .ok (.istore_n 2, 1) := by decide +kernel
theorem dX6_set_30 : decode cX6_set 30 = .ok (.iinc 3 1, 3) := by decide +kernel
theorem dX6_set_33 : decode cX6_set 33 = .ok (.goto (-29), 3) := by decide +kernel
theorem dX6_set_36 : decode cX6_set 36 = .ok (.iload_n 2, 1) := by decide +kernel
theorem dX6_set_37 : decode cX6_set 37 = .ok (.ireturn, 1) := by decide +kernel
