theorem dX12_buy_16 : decode cX12_buy 16 = .ok (.invokestatic 123, 3) := by decide +kernel
theorem dX12_buy_19 : decode cX12_buy 19 = .ok (.ifCond .eq 15, 3) := by decide +kernel
theorem dX12_buy_22 : decode cX12_buy 22 = .ok (.iload_n 3, 1) := by decide +kernel
theorem dX12_buy_23 : decode cX12_buy 23 = .ok (.i2l, 1) := by decide +kernel
theorem dX12_buy_24 : decode cX12_buy 24 = .ok (.lconst 1, 1) := by decide +kernel
theorem dX12_buy_25 : decode cX12_buy 25 = .ok (.ldc2_w 165, 3) := by decide +kernel
theorem dX12_buy_28 : decode cX12_buy 28 = .ok (.invokestatic 123, 3) := by decide +kernel
theorem dX12_buy_31 : decode cX12_buy 31 = .ok (.ifCond .ne 6, 3) := by decide +kernel
theorem dX12_buy_34 : decode cX12_buy 34 = .ok (.bipush (-2), 2) := by decide +kernel
theorem dX12_buy_36 : decode cX12_buy 36 = .ok (.ireturn, 1) := by decide +kernel
theorem dX12_buy_37 : decode cX12_buy 37 = .ok (.aload_n 0, 1) := by decide +kernel
theorem dX12_buy_38 : decode cX12_buy 38 = .ok (.getfield 127, 3) := by decide +kernel
theorem dX12_buy_41 : decode cX12_buy 41 = .ok (.sipush 200, 3) := by decide +kernel
theorem dX12_buy_44 : decode cX12_buy 44 = .ok (.if_icmp .ne 6, 3) := by decide +kernel
theorem dX12_buy_47 : decode cX12_buy 47 = .ok (.bipush (-4), 2) := by decide +kernel
theorem dX12_buy_49 : decode cX12_buy 49 = .ok (.ireturn, 1) := by decide +kernel
theorem dX12_buy_50 : decode cX12_buy 50 = .ok (.aload_n 0, 1) := by decide +kernel
theorem dX12_buy_51 : decode cX12_buy 51 = .ok (.getfield 22, 3) := by decide +kernel
theorem dX12_buy_54 : decode cX12_buy 54 = .ok (.aload_n 0, 1) := by decide +kernel
theorem dX12_buy_55 : decode cX12_buy 55 = .ok (.getfield 127, 3) := by decide +kernel
theorem dX12_buy_58 : decode cX12_buy 58 = .ok (.iload_n 2, 1) := by decide +kernel
theorem dX12_buy_59 : decode cX12_buy 59 = .ok (.iastore, 1) := by decide +kernel
theorem dX12_buy_60 : decode cX12_buy 60 = .ok (.aload_n 0, 1) := by decide +kernel
theorem dX12_buy_61 : decode cX12_buy 61 = .ok (.getfield 25, 3) := by decide +kernel
theorem dX12_buy_64 : decode cX12_buy 64 = .ok (.aload_n 0, 1) := by decide +kernel
theorem dX12_buy_65 : decode cX12_buy 65 = .ok (.getfield 127, 3) := by decide +kernel
theorem dX12_buy_68 : decode cX12_buy 68 = .ok (.iload_n 3, 1) := by decide +kernel
theorem dX12_buy_69 : decode cX12_buy 69 = .ok (.iastore, 1) := by decide +kernel
theorem dX12_buy_70 : decode cX12_buy 70 = .ok (.aload_n 0, 1) := by decide +kernel
theorem dX12_buy_71 : decode cX12_buy 71 = .ok (.iconst 1, 1) := by decide +kernel
theorem dX12_buy_72 : decode cX12_buy 72 = .ok (.iload_n 1, 1) := by decide +kernel
theorem dX12_buy_73 : decode cX12_buy 73 = .ok (.invokevirtual 167, 3) := by decide +kernel
theorem dX12_buy_76 : decode cX12_buy 76 = .ok (.ireturn, 1) := by decide +kernel
set_option maxRecDepth 20000 in
theorem ggX12_grind_X12_isRecord : GoodIn wsX12_grind wsX12_isRecord := goodIn_r _ [13, 14, 15, 16, 12, 17, 18, 19, 20, 21, 22, 23, 24, 25, 26, 27, 28, 29, 30, 31, 32, 33, 34, 35, 36, 37, 38, 39, 40, 41, 42, 43, 44, 45, 46, 47, 48, 49, 50, 51, 52, 53, 54, 55, 56, 57, 58, 59, 60, 61, 62, 63, 64, 65, 66, 67] (by decide +kernel) (by decide +kernel)
set_option maxRecDepth 20000 in
theorem gX12_grind_X12_isRecord : GoodIn wsX12_grind (wsV RX12 171 RX12 yX12_isRecord wsX12_isRecord) := goodIn_app (goodIn_of _ (by decide +kernel)) ggX12_grind_X12_isRecord
theorem dX12_grind_0 : decode cX12_grind 0 = .ok (.aload_n 0, 1) := by decide +kernel
theorem dX12_grind_1 : decode cX12_grind 1 = .ok (.iload_n 1, 1) := by decide +kernel
theorem dX12_grind_2 : decode cX12_grind 2 = .ok (.invokevirtual 171, 3) := by decide +kernel
theorem dX12_grind_5 : decode cX12_grind 5 = .ok (.ifCond .ne 5, 3) := by decide +kernel
theorem dX12_grind_8 : decode cX12_grind 8 = .ok (.iconst (-1), 1) := by decide +kernel
theorem dX12_grind_9 : decode cX12_grind 9 = .ok (.ireturn, 1) := by decide +kernel
theorem dX12_grind_10 : decode cX12_grind 10 = .ok (.aload_n 0, 1) := by decide +kernel
theorem dX12_grind_11 : decode cX12_grind 11 = .ok (.getfield 7, 3) := by decide +kernel
theorem dX12_grind_14 : decode cX12_grind 14 = .ok (.iload_n 1, 1) := by decide +kernel
theorem dX12_grind_15 : decode cX12_grind 15 = .ok (.iaload, 1) := by decide +kernel
theorem dX12_grind_16 : decode cX12_grind 16 = .ok (.iconst 1, 1) := by decide +kernel
theorem dX12_grind_17 : decode cX12_grind 17 = .ok (.if_icmp .eq 6, 3) := by decide +kernel
theorem dX12_grind_20 : decode cX12_grind 20 = .ok (.bipush (-5), 2) := by decide +kernel
theorem dX12_grind_22 : decode cX12_grind 22 = .ok (.ireturn, 1) := by decide +kernel
theorem dX12_grind_23 : decode cX12_grind 23 = .ok (.aload_n 0, 1) := by decide +kernel
theorem dX12_grind_24 : decode cX12_grind 24 = .ok (.getfield 28, 3) := by decide +kernel
theorem dX12_grind_27 : decode cX12_grind 27 = .ok (.iload_n 1, 1) := by decide +kernel
theorem dX12_grind_28 : decode cX12_grind 28 = .ok (.baload, 1) := by decide +kernel
theorem dX12_grind_29 : decode cX12_grind 29 = .ok (.ifCond .eq 6, 3) := by decide +kernel
theorem dX12_grind_32 : decode cX12_grind 32 = .ok (.bipush (-3), 2) := by decide +kernel
theorem dX12_grind_34 : decode cX12_grind 34 = .ok (.ireturn, 1) := by decide +kernel
theorem dX12_grind_35 : decode cX12_grind 35 = .ok (.aload_n 0, 1) := by decide +kernel
theorem dX12_grind_36 : decode cX12_grind 36 = .ok (.getfield 22, 3) := by decide +kernel
theorem dX12_grind_39 : decode cX12_grind 39 = .ok (.iload_n 1, 1) := by decide +kernel
theorem dX12_grind_40 : decode cX12_grind 40 = .ok (.iaload, 1) := by decide +kernel
theorem dX12_grind_41 : decode cX12_grind 41 = .ok (.aload_n 0, 1) := by decide +kernel
theorem dX12_grind_42 : decode cX12_grind 42 = .ok (.getfield 38, 3) := by decide +kernel
theorem dX12_grind_45 : decode cX12_grind 45 = .ok (.idiv, 1) := by decide +kernel
theorem dX12_grind_46 : decode cX12_grind 46 = .ok (.istore_n 2, 1) := by decide +kernel
theorem dX12_grind_47 : decode cX12_grind 47 = .ok (.aload_n 0, 1) := by decide +kernel
theorem dX12_grind_48 : decode cX12_grind 48 = .ok (.getfield 28, 3) := by decide +kernel
theorem dX12_grind_51 : decode cX12_grind 51 = .ok (.iload_n 1, 1) := by decide +kernel
theorem dX12_grind_52 : decode cX12_grind 52 = .ok (.iconst 1, 1) := by decide +kernel
theorem dX12_grind_53 : decode cX12_grind 53 = .ok (.bastore, 1) := by decide +kernel
theorem dX12_grind_54 : decode cX12_grind 54 = .ok (.aload_n 0, 1) := by decide +kernel
theorem dX12_grind_55 : decode cX12_grind 55 = .ok (.getfield 32, 3) := by decide +kernel
theorem dX12_grind_58 : decode cX12_grind 58 = .ok (.iload_n 1, 1) := by decide +kernel
theorem dX12_grind_59 : decode cX12_grind 59 = .ok (.aload_n 0, 1) := by decide +kernel
theorem dX12_grind_60 : decode cX12_grind 60 = .ok (.getfield 22, 3) := by decide +kernel
theorem dX12_grind_63 : decode cX12_grind 63 = .ok (.iload_n 1, 1) := by decide +kernel
theorem dX12_grind_64 : decode cX12_grind 64 = .ok (.iaload, 1) := by decide +kernel
theorem dX12_grind_65 : decode cX12_grind 65 = .ok (.iload_n 2, 1) := by decide +kernel
theorem dX12_grind_66 : decode cX12_grind 66 = .ok (.isub, 1) := by decide +kernel
theorem dX12_grind_67 : decode cX12_grind 67 = .ok (.iastore, 1) := by decide +kernel
theorem dX12_grind_68 : decode cX12_grind 68 = .ok (.aload_n 0, 1) := by decide +kernel
theorem dX12_grind_69 : decode cX12_grind 69 = .ok (.getfield 35, 3) := by decide +kernel
theorem dX12_grind_72 : decode cX12_grind 72 = .ok (.aload_n 0, 1) := by decide +kernel
theorem dX12_grind_73 : decode cX12_grind 73 = .ok (.getfield 174, 3) := by decide +kernel
theorem dX12_grind_76 : decode cX12_grind 76 = .ok (.iload_n 1, 1) := by decide +kernel
theorem dX12_grind_77 : decode cX12_grind 77 = .ok (.iastore, 1) := by decide +kernel
theorem dX12_grind_78 : decode cX12_grind 78 = .ok (.aload_n 0, 1) := by decide +kernel
theorem dX12_grind_79 : decode cX12_grind 79 = .ok (.dup, 1) := by decide +kernel
theorem dX12_grind_80 : decode cX12_grind 80 = .ok (.getfield 174, 3) := by decide +kernel
theorem dX12_grind_83 : decode cX12_grind 83 = .ok (.iconst 1, 1) := by decide +kernel
theorem dX12_grind_84 : decode cX12_grind 84 = .ok (.iadd, 1) := by decide +kernel
theorem dX12_grind_85 : decode cX12_grind 85 = .ok (.putfield 174, 3) := by decide +kernel
theorem dX12_grind_88 : decode cX12_grind 88 = .ok (.aload_n 0, 1) := by decide +kernel
theorem dX12_grind_89 : decode cX12_grind 89 = .ok (.dup, 1) := by decide +kernel
theorem dX12_grind_90 : decode cX12_grind 90 = .ok (.getfield 177, 3) := by decide +kernel
theorem dX12_grind_93 : decode cX12_grind 93 = .ok (.iload_n 2, 1) := by decide +kernel
theorem dX12_grind_94 : decode cX12_grind 94 = .ok (.iadd, 1) := by decide +kernel
theorem dX12_grind_95 : decode cX12_grind 95 = .ok (.putfield 177, 3) := by decide +kernel
theorem dX12_grind_98 : decode cX12_grind 98 = .ok (.iload_n 2, 1) := by decide +kernel
theorem dX12_grind_99 : decode cX12_grind 99 = .ok (.ireturn, 1) := by decide +kernel
set_option maxRecDepth 20000 in
theorem ggX12_dish_X12_in : GoodIn wsX12_dish wsX12_in := goodIn_r _ [7] (by decide +kernel) (by decide +kernel)
set_option maxRecDepth 20000 in
theorem gX12_dish_X12_in : GoodIn wsX12_dish (va_wsS RX12 123 yX12_in wsX12_in) := goodIn_app (goodIn_of _ (by decide +kernel)) ggX12_dish_X12_in
theorem dX12_dish_0 : decode cX12_dish 0 = .ok (.iload_n 1, 1) := by decide +kernel
theorem dX12_dish_1 : decode cX12_dish 1 = .ok (.i2l, 1) := by decide +kernel
theorem dX12_dish_2 : decode cX12_dish 2 = .ok (.ldc2_w 180, 3) := by decide +kernel
theorem dX12_dish_5 : decode cX12_dish 5 = .ok (.ldc2_w 182, 3) := by decide +kernel
theorem dX12_dish_8 : decode cX12_dish 8 = .ok (.invokestatic 123, 3) := by decide +kernel
theorem dX12_dish_11 : decode cX12_dish 11 = .ok (.ifCond .ne 6, 3) := by decide +kernel
theorem dX12_dish_14 : decode cX12_dish 14 = .ok (.bipush (-2), 2) := by decide +kernel
theorem dX12_dish_16 : decode cX12_dish 16 = .ok (.ireturn, 1) := by decide +kernel
theorem dX12_dish_17 : decode cX12_dish 17 = .ok (.aload_n 0, 1) := by decide +kernel
theorem dX12_dish_18 : decode cX12_dish 18 = .ok (.getfield 38, 3) := by decide +kernel
theorem dX12_dish_21 : decode cX12_dish 21 = .ok (.istore_n 2, 1) := by decide +kernel
theorem dX12_dish_22 : decode cX12_dish 22 = .ok (.aload_n 0, 1) := by decide +kernel
theorem dX12_dish_23 : decode cX12_dish 23 = .ok (.iload_n 1, 1) := by decide +kernel
theorem dX12_dish_24 : decode cX12_dish 24 = .ok (.putfield 38, 3) := by decide +kernel
theorem dX12_dish_27 : decode cX12_dish 27 = .ok (.iload_n 2, 1) := by decide +kernel
theorem dX12_dish_28 : decode cX12_dish 28 = .ok (.ireturn, 1) := by decide +kernel
theorem dX12_priceIn_0 : decode cX12_priceIn 0 = .ok (.iload_n 1, 1) := by decide +kernel
theorem dX12_priceIn_1 : decode cX12_priceIn 1 = .ok (.istore_n 2, 1) := by decide +kernel
theorem dX12_priceIn_2 : decode cX12_priceIn 2 = .ok (.iload_n 2, 1) := by decide +kernel
theorem dX12_priceIn_3 : decode cX12_priceIn 3 = .ok (.ifCond .lt 100, 3) := by decide +kernel
theorem dX12_priceIn_6 : decode cX12_priceIn 6 = .ok (.lconst 0, 1) := by decide +kernel
theorem dX12_priceIn_7 : decode cX12_priceIn 7 = .ok (.lstore_n 3, 1) := by decide +kernel
theorem dX12_priceIn_8 : decode cX12_priceIn 8 = .ok (.lconst 0, 1) := by decide +kernel
theorem dX12_priceIn_9 : decode cX12_priceIn 9 = .ok (.lstore 5, 2) := by decide +kernel
theorem dX12_priceIn_11 : decode cX12_priceIn 11 = .ok (.iconst 0, 1) := by decide +kernel
theorem dX12_priceIn_12 : decode cX12_priceIn 12 = .ok (.istore 7, 2) := by decide +kernel
theorem dX12_priceIn_14 : decode cX12_priceIn 14 = .ok (.iload 7, 2) := by decide +kernel
theorem dX12_priceIn_16 : decode cX12_priceIn 16 = .ok (.aload_n 0, 1) := by decide +kernel
theorem dX12_priceIn_17 : decode cX12_priceIn 17 = .ok (.getfield 127, 3) := by decide +kernel
theorem dX12_priceIn_20 : decode cX12_priceIn 20 = .ok (.if_icmp .ge 64, 3) := by decide +kernel
theorem dX12_priceIn_23 : decode cX12_priceIn 23 = .ok (.aload_n 0, 1) := by decide +kernel
theorem dX12_priceIn_24 : decode cX12_priceIn 24 = .ok (.getfield 7, 3) := by decide +kernel
theorem dX12_priceIn_27 : decode cX12_priceIn 27 = .ok (.iload 7, 2) := by decide +kernel
theorem dX12_priceIn_29 : decode cX12_priceIn 29 = .ok (.iaload, 1) := by decide +kernel
theorem dX12_priceIn_30 : decode cX12_priceIn 30 = .ok (.iconst 1, 1) := by decide +kernel
theorem dX12_priceIn_31 : decode cX12_priceIn 31 = .ok (.if_icmp .ne 47, 3) := by decide +kernel
theorem dX12_priceIn_34 : decode cX12_priceIn 34 = .ok (.aload_n 0, 1) := by decide +kernel
theorem dX12_priceIn_35 : decode cX12_priceIn 35 = .ok (.getfield 13, 3) := by decide +kernel
theorem dX12_priceIn_38 : decode cX12_priceIn 38 = .ok (.iload 7, 2) := by decide +kernel
theorem dX12_priceIn_40 : decode cX12_priceIn 40 = .ok (.iaload, 1) := by decide +kernel
theorem dX12_priceIn_41 : decode cX12_priceIn 41 = .ok (.iload_n 2, 1) := by decide +kernel
theorem dX12_priceIn_42 : decode cX12_priceIn 42 = .ok (.if_icmp .ne 36, 3) := by decide +kernel
theorem dX12_priceIn_45 : decode cX12_priceIn 45 = .ok (.lload_n 3, 1) := by decide +kernel
theorem dX12_priceIn_46 : decode cX12_priceIn 46 = .ok (.aload_n 0, 1) := by decide +kernel
theorem dX12_priceIn_47 : decode cX12_priceIn 47 = .ok (.getfield 25, 3) := by decide +kernel
theorem dX12_priceIn_50 : decode cX12_priceIn 50 = .ok (.iload 7, 2) := by decide +kernel
theorem dX12_priceIn_52 : decode cX12_priceIn 52 = .ok (.iaload, 1) := by decide +kernel
theorem dX12_priceIn_53 : decode cX12_priceIn 53 = .ok (.i2l, 1) := by decide +kernel
theorem dX12_priceIn_54 : decode cX12_priceIn 54 = .ok (.aload_n 0, 1) := by decide +kernel
theorem dX12_priceIn_55 : decode cX12_priceIn 55 = .ok (.getfield 22, 3) := by decide +kernel
theorem dX12_priceIn_58 : decode cX12_priceIn 58 = .ok (.iload 7, 2) := by decide +kernel
theorem dX12_priceIn_60 : decode cX12_priceIn 60 = .ok (.iaload, 1) := by decide +kernel
theorem dX12_priceIn_61 : decode cX12_priceIn 61 = .ok (.i2l, 1) := by decide +kernel
theorem dX12_priceIn_62 : decode cX12_priceIn 62 = .ok (.lmul, 1) := by decide +kernel
theorem dX12_priceIn_63 : decode cX12_priceIn 63 = .ok (.ladd, 1) := by decide +kernel
theorem dX12_priceIn_64 : decode cX12_priceIn 64 = .ok (.lstore_n 3, 1) := by decide +kernel
theorem dX12_priceIn_65 : decode cX12_priceIn 65 = .ok (.lload 5, 2) := by decide +kernel
theorem dX12_priceIn_67 : decode cX12_priceIn 67 = .ok (.aload_n 0, 1) := by decide +kernel
theorem dX12_priceIn_68 : decode cX12_priceIn 68 = .ok (.getfield 22, 3) := by decide +kernel
theorem dX12_priceIn_71 : decode cX12_priceIn 71 = .ok (.iload 7, 2) := by decide +kernel
theorem dX12_priceIn_73 : decode cX12_priceIn 73 = .ok (.iaload, 1) := by decide +kernel
theorem dX12_priceIn_74 : decode cX12_priceIn 74 = .ok (.i2l, 1) := by decide +kernel
theorem dX12_priceIn_75 : decode cX12_priceIn 75 = .ok (.ladd, 1) := by decide +kernel
theorem dX12_priceIn_76 : decode cX12_priceIn 76 = .ok (.lstore 5, 2) := by decide +kernel
theorem dX12_priceIn_78 : decode cX12_priceIn 78 = .ok (.iinc 7 1, 3) := by decide +kernel
theorem dX12_priceIn_81 : decode cX12_priceIn 81 = .ok (.goto (-67), 3) := by decide +kernel
theorem dX12_priceIn_84 : decode cX12_priceIn 84 = .ok (.lload 5, 2) := by decide +kernel
theorem dX12_priceIn_86 : decode cX12_priceIn 86 = .ok (.lconst 0, 1) := by decide +kernel
theorem dX12_priceIn_87 : decode cX12_priceIn 87 = .ok (.lcmp, 1) := by decide +kernel
theorem dX12_priceIn_88 : decode cX12_priceIn 88 = .ok (.ifCond .le 9, 3) := by decide +kernel
theorem dX12_priceIn_91 : decode cX12_priceIn 91 = .ok (.lload_n 3, 1) := by decide +kernel
theorem dX12_priceIn_92 : decode cX12_priceIn 92 = .ok (.lload 5, 2) := by decide +kernel
theorem dX12_priceIn_94 : decode cX12_priceIn 94 = .ok (.ldiv, 1) := by decide +kernel
theorem dX12_priceIn_95 : decode cX12_priceIn 95 = .ok (.l2i, 1) := by decide +kernel
theorem dX12_priceIn_96 : decode cX12_priceIn 96 = .ok (.ireturn, 1) := by decide +kernel
theorem dX12_priceIn_97 : decode cX12_priceIn 97 = .ok (.iinc 2 (-1), 3) := by decide +kernel
theorem dX12_priceIn_100 : decode cX12_priceIn 100 = .ok (.goto (-98), 3) := by decide +kernel
theorem dX12_priceIn_103 : decode cX12_priceIn 103 = .ok (.bipush 100, 2) := by decide +kernel
theorem dX12_priceIn_105 : decode cX12_priceIn 105 = .ok (.ireturn, 1) := by decide +kernel
set_option maxRecDepth 20000 in
theorem ggX12_price_X12_in : GoodIn wsX12_price wsX12_in := goodIn_r _ [6] (by decide +kernel) (by decide +kernel)
set_option maxRecDepth 20000 in
theorem gX12_price_X12_in : GoodIn wsX12_price (va_wsS RX12 123 yX12_in wsX12_in) := goodIn_app (goodIn_of _ (by decide +kernel)) ggX12_price_X12_in
set_option maxRecDepth 20000 in
theorem ggX12_price_X12_priceIn : GoodIn wsX12_price wsX12_priceIn := goodIn_r _ [10, 11, 12, 13, 14, 15, 16, 17, 18, 19, 20, 21, 22, 23, 24, 25, 26, 27, 28, 29, 30, 31, 32, 33, 34, 35, 36, 37, 38, 39, 40, 41, 42, 43, 44, 45, 46, 47, 48, 49, 50, 51, 52, 53, 54, 55, 56, 57, 58, 59, 60, 61, 62, 63, 64, 65] (by decide +kernel) (by decide +kernel)
set_option maxRecDepth 20000 in
theorem gX12_price_X12_priceIn : GoodIn wsX12_price (wsV RX12 186 RX12 yX12_priceIn wsX12_priceIn) := goodIn_app (goodIn_of _ (by decide +kernel)) ggX12_price_X12_priceIn
theorem dX12_price_0 : decode cX12_price 0 = .ok (.iload_n 1, 1) := by decide +kernel
theorem dX12_price_1 : decode cX12_price 1 = .ok (.i2l, 1) := by decide +kernel
theorem dX12_price_2 : decode cX12_price 2 = .ok (.ldc2_w 184, 3) := by decide +kernel
theorem dX12_price_5 : decode cX12_price 5 = .ok (.aload_n 0, 1) := by decide +kernel
theorem dX12_price_6 : decode cX12_price 6 = .ok (.getfield 130, 3) := by decide +kernel
theorem dX12_price_9 : decode cX12_price 9 = .ok (.i2l, 1) := by decide +kernel
theorem dX12_price_10 : decode cX12_price 10 = .ok (.invokestatic 123, 3) := by decide +kernel
theorem dX12_price_13 : decode cX12_price 13 = .ok (.ifCond .eq 11, 3) := by decide +kernel
theorem dX12_price_16 : decode cX12_price 16 = .ok (.aload_n 0, 1) := by decide +kernel
theorem dX12_price_17 : decode cX12_price 17 = .ok (.iload_n 1, 1) := by decide +kernel
theorem dX12_price_18 : decode cX12_price 18 = .ok (.invokevirtual 186, 3) := by decide +kernel
theorem dX12_price_21 : decode cX12_price 21 = .ok (.goto 4, 3) := by decide +kernel
theorem dX12_price_24 : decode cX12_price 24 = .ok (.iconst (-1), 1) := by decide +kernel
theorem dX12_price_25 : decode cX12_price 25 = .ok (.ireturn, 1) := by decide +kernel
set_option maxRecDepth 20000 in
theorem ggX12_text_X12_in : GoodIn wsX12_text wsX12_in := goodIn_r _ [12] (by decide +kernel) (by decide +kernel)
set_option maxRecDepth 20000 in
theorem gX12_text_X12_in : GoodIn wsX12_text (va_wsS RX12 123 yX12_in wsX12_in) := goodIn_app (goodIn_of _ (by decide +kernel)) ggX12_text_X12_in
theorem dX12_text_0 : decode cX12_text 0 = .ok (.iload_n 1, 1) := by decide +kernel
theorem dX12_text_1 : decode cX12_text 1 = .ok (.i2l, 1) := by decide +kernel
theorem dX12_text_2 : decode cX12_text 2 = .ok (.lconst 0, 1) := by decide +kernel
theorem dX12_text_3 : decode cX12_text 3 = .ok (.ldc2_w 189, 3) := by decide +kernel
theorem dX12_text_6 : decode cX12_text 6 = .ok (.invokestatic 123, 3) := by decide +kernel
theorem dX12_text_9 : decode cX12_text 9 = .ok (.ifCond .eq 59, 3) := by decide +kernel
theorem dX12_text_12 : decode cX12_text 12 = .ok (.iload_n 2, 1) := by decide +kernel
theorem dX12_text_13 : decode cX12_text 13 = .ok (.i2l, 1) := by decide +kernel
theorem dX12_text_14 : decode cX12_text 14 = .ok (.ldc2_w 191, 3) := by decide +kernel
theorem dX12_text_17 : decode cX12_text 17 = .ok (.ldc2_w 193, 3) := by decide +kernel
theorem dX12_text_20 : decode cX12_text 20 = .ok (.invokestatic 123, 3) := by decide +kernel
theorem dX12_text_23 : decode cX12_text 23 = .ok (.ifCond .eq 45, 3) := by decide +kernel
theorem dX12_text_26 : decode cX12_text 26 = .ok (.iload_n 3, 1) := by decide +kernel
theorem dX12_text_27 : decode cX12_text 27 = .ok (.i2l, 1) := by decide +kernel
theorem dX12_text_28 : decode cX12_text 28 = .ok (.ldc2_w 191, 3) := by decide +kernel
theorem dX12_text_31 : decode cX12_text 31 = .ok (.ldc2_w 193, 3) := by decide +kernel
theorem dX12_text_34 : decode cX12_text 34 = .ok (.invokestatic 123, 3) := by decide +kernel
theorem dX12_text_37 : decode cX12_text 37 = .ok (.ifCond .eq 31, 3) := by decide +kernel
theorem dX12_text_40 : decode cX12_text 40 = .ok (.iload 4, 2) := by decide +kernel
theorem dX12_text_42 : decode cX12_text 42 = .ok (.i2l, 1) := by decide +kernel
theorem dX12_text_43 : decode cX12_text 43 = .ok (.ldc2_w 191, 3) := by decide +kernel
theorem dX12_text_46 : decode cX12_text 46 = .ok (.ldc2_w 193, 3) := by decide +kernel
theorem dX12_text_49 : decode cX12_text 49 = .ok (.invokestatic 123, 3) := by decide +kernel
theorem dX12_text_52 : decode cX12_text 52 = .ok (.ifCond .eq 16, 3) := by decide +kernel
theorem dX12_text_55 : decode cX12_text 55 = .ok (.iload 5, 2) := by decide +kernel
theorem dX12_text_57 : decode cX12_text 57 = .ok (.i2l, 1) := by decide +kernel
theorem dX12_text_58 : decode cX12_text 58 = .ok (.lconst 0, 1) := by decide +kernel
theorem dX12_text_59 : decode cX12_text 59 = .ok (.ldc2_w 195, 3) := by decide +kernel
theorem dX12_text_62 : decode cX12_text 62 = .ok (.invokestatic 123, 3) := by decide +kernel
theorem dX12_text_65 : decode cX12_text 65 = .ok (.ifCond .ne 6, 3) := by decide +kernel
theorem dX12_text_68 : decode cX12_text 68 = .ok (.bipush (-2), 2) := by decide +kernel
theorem dX12_text_70 : decode cX12_text 70 = .ok (.ireturn, 1) := by decide +kernel
theorem dX12_text_71 : decode cX12_text 71 = .ok (.aload_n 0, 1) := by decide +kernel
theorem dX12_text_72 : decode cX12_text 72 = .ok (.getfield 197, 3) := by decide +kernel
theorem dX12_text_75 : decode cX12_text 75 = .ok (.bipush 6, 2) := by decide +kernel
theorem dX12_text_77 : decode cX12_text 77 = .ok (.if_icmp .ne 6, 3) := by decide +kernel
theorem dX12_text_80 : decode cX12_text 80 = .ok (.bipush (-4), 2) := by decide +kernel
theorem dX12_text_82 : decode cX12_text 82 = .ok (.ireturn, 1) := by decide +kernel
theorem dX12_text_83 : decode cX12_text 83 = .ok (.aload_n 0, 1) := by decide +kernel
theorem dX12_text_84 : decode cX12_text 84 = .ok (.getfield 78, 3) := by decide +kernel
theorem dX12_text_87 : decode cX12_text 87 = .ok (.aload_n 0, 1) := by decide +kernel
theorem dX12_text_88 : decode cX12_text 88 = .ok (.getfield 197, 3) := by decide +kernel
theorem dX12_text_91 : decode cX12_text 91 = .ok (.iload_n 1, 1) := by decide +kernel
theorem dX12_text_92 : decode cX12_text 92 = .ok (.iastore, 1) := by decide +kernel
theorem dX12_text_93 : decode cX12_text 93 = .ok (.aload_n 0, 1) := by decide +kernel
theorem dX12_text_94 : decode cX12_text 94 = .ok (.getfield 81, 3) := by decide +kernel
theorem dX12_text_97 : decode cX12_text 97 = .ok (.iconst 3, 1) := by decide +kernel
theorem dX12_text_98 : decode cX12_text 98 = .ok (.aload_n 0, 1) := by decide +kernel
theorem dX12_text_99 : decode cX12_text 99 = .ok (.getfield 197, 3) := by decide +kernel
theorem dX12_text_102 : decode cX12_text 102 = .ok (.imul, 1) := by decide +kernel
theorem dX12_text_103 : decode cX12_text 103 = .ok (.iload_n 2, 1) := by decide +kernel
theorem dX12_text_104 : decode cX12_text 104 = .ok (.iastore, 1) := by decide +kernel
theorem dX12_text_105 : decode cX12_text 105 = .ok (.aload_n 0, 1) := by decide +kernel
theorem dX12_text_106 : decode cX12_text 106 = .ok (.getfield 81, 3) := by decide +kernel
theorem dX12_text_109 : decode cX12_text 109 = .ok (.iconst 3, 1) := by decide +kernel
theorem dX12_text_110 : decode cX12_text 110 = .ok (.aload_n 0, 1) := by decide +kernel
theorem dX12_text_111 : decode cX12_text 111 = .ok (.getfield 197, 3) := by decide +kernel
theorem dX12_text_114 : decode cX12_text 114 = .ok (.imul, 1) := by decide +kernel
theorem dX12_text_115 : decode cX12_text 115 = .ok (.iconst 1, 1) := by decide +kernel
theorem dX12_text_116 : decode cX12_text 116 = .ok (.iadd, 1) := by decide +kernel
theorem dX12_text_117 : decode cX12_text 117 = .ok (.iload_n 3, 1) := by decide +kernel
theorem dX12_text_118 : decode cX12_text 118 = .ok (.iastore, 1) := by decide +kernel
theorem dX12_text_119 : decode cX12_text 119 = .ok (.aload_n 0, 1) := by decide +kernel
theorem dX12_text_120 : decode cX12_text 120 = .ok (.getfield 81, 3) := by decide +kernel
theorem dX12_text_123 : decode cX12_text 123 = .ok (.iconst 3, 1) := by decide +kernel
theorem dX12_text_124 : decode cX12_text 124 = .ok (.aload_n 0, 1) := by decide +kernel
theorem dX12_text_125 : decode cX12_text 125 = .ok (.getfield 197, 3) := by decide +kernel
theorem dX12_text_128 : decode cX12_text 128 = .ok (.imul, 1) := by decide +kernel
theorem dX12_text_129 : decode cX12_text 129 = .ok (.iconst 2, 1) := by decide +kernel
theorem dX12_text_130 : decode cX12_text 130 = .ok (.iadd, 1) := by decide +kernel
theorem dX12_text_131 : decode cX12_text 131 = .ok (.iload 4, 2) := by decide +kernel
theorem dX12_text_133 : decode cX12_text 133 = .ok (.iastore, 1) := by decide +kernel
theorem dX12_text_134 : decode cX12_text 134 = .ok (.aload_n 0, 1) := by decide +kernel
theorem dX12_text_135 : decode cX12_text 135 = .ok (.getfield 84, 3) := by decide +kernel
theorem dX12_text_138 : decode cX12_text 138 = .ok (.aload_n 0, 1) := by decide +kernel
theorem dX12_text_139 : decode cX12_text 139 = .ok (.getfield 197, 3) := by decide +kernel
theorem dX12_text_142 : decode cX12_text 142 = .ok (.iload 5, 2) := by decide +kernel
theorem dX12_text_144 : decode cX12_text 144 = .ok (.iastore, 1) := by decide +kernel
theorem dX12_text_145 : decode cX12_text 145 = .ok (.aload_n 0, 1) := by decide +kernel
theorem dX12_text_146 : decode cX12_text 146 = .ok (.dup, 1) := by decide +kernel
theorem dX12_text_147 : decode cX12_text 147 = .ok (.getfield 197, 3) := by decide +kernel
theorem dX12_text_150 : decode cX12_text 150 = .ok (.iconst 1, 1) := by decide +kernel
theorem dX12_text_151 : decode cX12_text 151 = .ok (.iadd, 1) := by decide +kernel
theorem dX12_text_152 : decode cX12_text 152 = .ok (.putfield 197, 3) := by decide +kernel
theorem dX12_text_155 : decode cX12_text 155 = .ok (.aload_n 0, 1) := by decide +kernel
theorem dX12_text_156 : decode cX12_text 156 = .ok (.getfield 197, 3) := by decide +kernel
theorem dX12_text_159 : decode cX12_text 159 = .ok (.iconst 1, 1) := by decide +kernel
theorem dX12_text_160 : decode cX12_text 160 = .ok (.isub, 1) := by decide +kernel
theorem dX12_text_161 : decode cX12_text 161 = .ok (.ireturn, 1) := by decide +kernel
set_option maxRecDepth 20000 in
theorem ggX12_step_X12_in : GoodIn wsX12_step wsX12_in := goodIn_r _ [9] (by decide +kernel) (by decide +kernel)
set_option maxRecDepth 20000 in
theorem gX12_step_X12_in : GoodIn wsX12_step (va_wsS RX12 123 yX12_in wsX12_in) := goodIn_app (goodIn_of _ (by decide +kernel)) ggX12_step_X12_in
theorem dX12_step_0 : decode cX12_step 0 = .ok (.iload_n 1, 1) := by decide +kernel
theorem dX12_step_1 : decode cX12_step 1 = .ok (.i2l, 1) := by decide +kernel
theorem dX12_step_2 : decode cX12_step 2 = .ok (.lconst 0, 1) := by decide +kernel
theorem dX12_step_3 : decode cX12_step 3 = .ok (.aload_n 0, 1) := by decide +kernel
theorem dX12_step_4 : decode cX12_step 4 = .ok (.getfield 197, 3) := by decide +kernel
theorem dX12_step_7 : decode cX12_step 7 = .ok (.iconst 1, 1) := by decide +kernel
theorem dX12_step_8 : decode cX12_step 8 = .ok (.isub, 1) := by decide +kernel
theorem dX12_step_9 : decode cX12_step 9 = .ok (.i2l, 1) := by decide +kernel
theorem dX12_step_10 : decode cX12_step 10 = .ok (.invokestatic 123, 3) := by decide +kernel
theorem dX12_step_13 : decode cX12_step 13 = .ok (.ifCond .ne 5, 3) := by decide +kernel
theorem dX12_step_16 : decode cX12_step 16 = .ok (.iconst (-1), 1) := by decide +kernel
theorem dX12_step_17 : decode cX12_step 17 = .ok (.ireturn, 1) := by decide +kernel
theorem dX12_step_18 : decode cX12_step 18 = .ok (.iload_n 2, 1) := by decide +kernel
theorem dX12_step_19 : decode cX12_step 19 = .ok (.i2l, 1) := by decide +kernel
theorem dX12_step_20 : decode cX12_step 20 = .ok (.lconst 0, 1) := by decide +kernel
theorem dX12_step_21 : decode cX12_step 21 = .ok (.ldc2_w 165, 3) := by decide +kernel
theorem dX12_step_24 : decode cX12_step 24 = .ok (.invokestatic 123, 3) := by decide +kernel
theorem dX12_step_27 : decode cX12_step 27 = .ok (.ifCond .eq 15, 3) := by decide +kernel
theorem dX12_step_30 : decode cX12_step 30 = .ok (.iload_n 3, 1) := by decide +kernel
theorem dX12_step_31 : decode cX12_step 31 = .ok (.i2l, 1) := by decide +kernel
theorem dX12_step_32 : decode cX12_step 32 = .ok (.lconst 1, 1) := by decide +kernel
theorem dX12_step_33 : decode cX12_step 33 = .ok (.ldc2_w 165, 3) := by decide +kernel
theorem dX12_step_36 : decode cX12_step 36 = .ok (.invokestatic 123, 3) := by decide +kernel
theorem dX12_step_39 : decode cX12_step 39 = .ok (.ifCond .ne 6, 3) := by decide +kernel
theorem dX12_step_42 : decode cX12_step 42 = .ok (.bipush (-2), 2) := by decide +kernel
theorem dX12_step_44 : decode cX12_step 44 = .ok (.ireturn, 1) := by decide +kernel
theorem dX12_step_45 : decode cX12_step 45 = .ok (.aload_n 0, 1) := by decide +kernel
theorem dX12_step_46 : decode cX12_step 46 = .ok (.getfield 93, 3) := by decide +kernel
theorem dX12_step_49 : decode cX12_step 49 = .ok (.iload_n 1, 1) := by decide +kernel
theorem dX12_step_50 : decode cX12_step 50 = .ok (.iaload, 1) := by decide +kernel
theorem dX12_step_51 : decode cX12_step 51 = .ok (.bipush 8, 2) := by decide +kernel
theorem dX12_step_53 : decode cX12_step 53 = .ok (.if_icmp .ne 6, 3) := by decide +kernel
theorem dX12_step_56 : decode cX12_step 56 = .ok (.bipush (-4), 2) := by decide +kernel
theorem dX12_step_58 : decode cX12_step 58 = .ok (.ireturn, 1) := by decide +kernel
theorem dX12_step_59 : decode cX12_step 59 = .ok (.aload_n 0, 1) := by decide +kernel
theorem dX12_step_60 : decode cX12_step 60 = .ok (.getfield 87, 3) := by decide +kernel
theorem dX12_step_63 : decode cX12_step 63 = .ok (.bipush 8, 2) := by decide +kernel
theorem dX12_step_65 : decode cX12_step 65 = .ok (.iload_n 1, 1) := by decide +kernel
theorem dX12_step_66 : decode cX12_step 66 = .ok (.imul, 1) := by decide +kernel
theorem dX12_step_67 : decode cX12_step 67 = .ok (.aload_n 0, 1) := by decide +kernel
theorem dX12_step_68 : decode cX12_step 68 = .ok (.getfield 93, 3) := by decide +kernel
theorem dX12_step_71 : decode cX12_step 71 = .ok (.iload_n 1, 1) := by decide +kernel
theorem dX12_step_72 : decode cX12_step 72 = .ok (.iaload, 1) := by decide +kernel
theorem dX12_step_73 : decode cX12_step 73 = .ok (.iadd, 1) := by decide +kernel
theorem dX12_step_74 : decode cX12_step 74 = .ok (.iload_n 2, 1) := by decide +kernel
theorem dX12_step_75 : decode cX12_step 75 = .ok (.iastore, 1) := by decide +kernel
theorem dX12_step_76 : decode cX12_step 76 = .ok (.aload_n 0, 1) := by decide +kernel
theorem dX12_step_77 : decode cX12_step 77 = .ok (.getfield 90, 3) := by decide +kernel
theorem dX12_step_80 : decode cX12_step 80 = .ok (.bipush 8, 2) := by decide +kernel
theorem dX12_step_82 : decode cX12_step 82 = .ok (.iload_n 1, 1) := by decide +kernel
theorem dX12_step_83 : decode cX12_step 83 = .ok (.imul, 1) := by decide +kernel
theorem dX12_step_84 : decode cX12_step 84 = .ok (.aload_n 0, 1) := by decide +kernel
theorem dX12_step_85 : decode cX12_step 85 = .ok (.getfield 93, 3) := by decide +kernel
theorem dX12_step_88 : decode cX12_step 88 = .ok (.iload_n 1, 1) := by decide +kernel
theorem dX12_step_89 : decode cX12_step 89 = .ok (.iaload, 1) := by decide +kernel
theorem dX12_step_90 : decode cX12_step 90 = .ok (.iadd, 1) := by decide +kernel
theorem dX12_step_91 : decode cX12_step 91 = .ok (.iload_n 3, 1) := by decide +kernel
theorem dX12_step_92 : decode cX12_step 92 = .ok (.iastore, 1) := by decide +kernel
theorem dX12_step_93 : decode cX12_step 93 = .ok (.aload_n 0, 1) := by decide +kernel
theorem dX12_step_94 : decode cX12_step 94 = .ok (.getfield 93, 3) := by decide +kernel
theorem dX12_step_97 : decode cX12_step 97 = .ok (.iload_n 1, 1) := by decide +kernel
theorem dX12_step_98 : decode cX12_step 98 = .ok (.dup2, 1) := by decide +kernel
theorem dX12_step_99 : decode cX12_step 99 = .ok (.iaload, 1) := by decide +kernel
theorem dX12_step_100 : decode cX12_step 100 = .ok (.iconst 1, 1) := by decide +kernel
theorem dX12_step_101 : decode cX12_step 101 = .ok (.iadd, 1) := by decide +kernel
theorem dX12_step_102 : decode cX12_step 102 = .ok (.iastore, 1) := by decide +kernel
theorem dX12_step_103 : decode cX12_step 103 = .ok (.aload_n 0, 1) := by decide +kernel
theorem dX12_step_104 : decode cX12_step 104 = .ok (.getfield 93, 3) := by decide +kernel
theorem dX12_step_107 : decode cX12_step 107 = .ok (.iload_n 1, 1) := by decide +kernel
theorem dX12_step_108 : decode cX12_step 108 = .ok (.iaload, 1) := by decide +kernel
theorem dX12_step_109 : decode cX12_step 109 = .ok (.ireturn, 1) := by decide +kernel
theorem dX12_textIn_0 : decode cX12_textIn 0 = .ok (.bipush (-6), 2) := by decide +kernel
theorem dX12_textIn_2 : decode cX12_textIn 2 = .ok (.istore_n 2, 1) := by decide +kernel
theorem dX12_textIn_3 : decode cX12_textIn 3 = .ok (.iconst 0, 1) := by decide +kernel
theorem dX12_textIn_4 : decode cX12_textIn 4 = .ok (.istore_n 3, 1) := by decide +kernel
theorem dX12_textIn_5 : decode cX12_textIn 5 = .ok (.iload_n 3, 1) := by decide +kernel
theorem dX12_textIn_6 : decode cX12_textIn 6 = .ok (.aload_n 0, 1) := by decide +kernel
theorem dX12_textIn_7 : decode cX12_textIn 7 = .ok (.getfield 197, 3) := by decide +kernel
theorem dX12_textIn_10 : decode cX12_textIn 10 = .ok (.if_icmp .ge 40, 3) := by decide +kernel
theorem dX12_textIn_13 : decode cX12_textIn 13 = .ok (.aload_n 0, 1) := by decide +kernel
theorem dX12_textIn_14 : decode cX12_textIn 14 = .ok (.getfield 78, 3) := by decide +kernel
theorem dX12_textIn_17 : decode cX12_textIn 17 = .ok (.iload_n 3, 1) := by decide +kernel
theorem dX12_textIn_18 : decode cX12_textIn 18 = .ok (.iaload, 1) := by decide +kernel
theorem dX12_textIn_19 : decode cX12_textIn 19 = .ok (.iload_n 1, 1) := by decide +kernel
theorem dX12_textIn_20 : decode cX12_textIn 20 = .ok (.if_icmp .gt 24, 3) := by decide +kernel
theorem dX12_textIn_23 : decode cX12_textIn 23 = .ok (.iload_n 2, 1) := by decide +kernel
theorem dX12_textIn_24 : decode cX12_textIn 24 = .ok (.ifCond .lt 18, 3) := by decide +kernel
theorem dX12_textIn_27 : decode cX12_textIn 27 = .ok (.aload_n 0, 1) := by decide +kernel
theorem dX12_textIn_28 : decode cX12_textIn 28 = .ok (.getfield 78, 3) := by decide +kernel
theorem dX12_textIn_31 : decode cX12_textIn 31 = .ok (.iload_n 3, 1) := by decide +kernel
theorem dX12_textIn_32 : decode cX12_textIn 32 = .ok (.iaload, 1) := by decide +kernel
theorem dX12_textIn_33 : decode cX12_textIn 33 = .ok (.aload_n 0, 1) := by decide +kernel
theorem dX12_textIn_34 : decode cX12_textIn 34 = .ok (.getfield 78, 3) := by decide +kernel
theorem dX12_textIn_37 : decode cX12_textIn 37 = .ok (.iload_n 2, 1) := by decide +kernel
theorem dX12_textIn_38 : decode cX12_textIn 38 = .ok (.iaload, 1) := by decide +kernel
theorem dX12_textIn_39 : decode cX12_textIn 39 = .ok (.if_icmp .lt 5, 3) := by decide +kernel
theorem dX12_textIn_42 : decode cX12_textIn 42 = .ok (.iload_n 3, 1) := by decide +kernel
theorem dX12_textIn_43 : decode cX12_textIn 43 = .ok (.istore_n 2, 1) := by decide +kernel
theorem dX12_textIn_44 : decode cX12_textIn 44 = .ok (.iinc 3 1, 3) := by decide +kernel
theorem dX12_textIn_47 : decode cX12_textIn 47 = .ok (.goto (-42), 3) := by decide +kernel
theorem dX12_textIn_50 : decode cX12_textIn 50 = .ok (.iload_n 2, 1) := by decide +kernel
theorem dX12_textIn_51 : decode cX12_textIn 51 = .ok (.ireturn, 1) := by decide +kernel
set_option maxRecDepth 20000 in
theorem ggX12_inForce_X12_in : GoodIn wsX12_inForce wsX12_in := goodIn_r _ [5] (by decide +kernel) (by decide +kernel)
set_option maxRecDepth 20000 in
theorem gX12_inForce_X12_in : GoodIn wsX12_inForce (va_wsS RX12 123 yX12_in wsX12_in) := goodIn_app (goodIn_of _ (by decide +kernel)) ggX12_inForce_X12_in
set_option maxRecDepth 20000 in
theorem ggX12_inForce_X12_textIn : GoodIn wsX12_inForce wsX12_textIn := goodIn_r _ [9, 10, 11, 12, 13, 14, 15, 16, 17, 18, 19, 20, 21, 22, 23, 24, 25, 26, 27, 28, 29, 30, 31, 32, 33, 34, 35, 36, 37, 38, 39, 40, 41, 42, 43, 44, 45, 46, 47, 48, 49, 50, 51, 52, 53, 54, 55, 56, 57, 58, 59, 60, 61] (by decide +kernel) (by decide +kernel)
set_option maxRecDepth 20000 in
theorem gX12_inForce_X12_textIn : GoodIn wsX12_inForce (wsV RX12 200 RX12 yX12_textIn wsX12_textIn) := goodIn_app (goodIn_of _ (by decide +kernel)) ggX12_inForce_X12_textIn
theorem dX12_inForce_0 : decode cX12_inForce 0 = .ok (.iload_n 1, 1) := by decide +kernel
theorem dX12_inForce_1 : decode cX12_inForce 1 = .ok (.i2l, 1) := by decide +kernel
theorem dX12_inForce_2 : decode cX12_inForce 2 = .ok (.lconst 0, 1) := by decide +kernel
theorem dX12_inForce_3 : decode cX12_inForce 3 = .ok (.ldc2_w 189, 3) := by decide +kernel
theorem dX12_inForce_6 : decode cX12_inForce 6 = .ok (.invokestatic 123, 3) := by decide +kernel
theorem dX12_inForce_9 : decode cX12_inForce 9 = .ok (.ifCond .eq 11, 3) := by decide +kernel
theorem dX12_inForce_12 : decode cX12_inForce 12 = .ok (.aload_n 0, 1) := by decide +kernel
theorem dX12_inForce_13 : decode cX12_inForce 13 = .ok (.iload_n 1, 1) := by decide +kernel
theorem dX12_inForce_14 : decode cX12_inForce 14 = .ok (.invokevirtual 200, 3) := by decide +kernel
theorem dX12_inForce_17 : decode cX12_inForce 17 = .ok (.goto 4, 3) := by decide +kernel
theorem dX12_inForce_20 : decode cX12_inForce 20 = .ok (.iconst (-1), 1) := by decide +kernel
theorem dX12_inForce_21 : decode cX12_inForce 21 = .ok (.ireturn, 1) := by decide +kernel
set_option maxRecDepth 20000 in
theorem ggX12_dueIn_X12_textIn : GoodIn wsX12_dueIn wsX12_textIn := goodIn_r _ [9, 10, 11, 21, 22, 23, 24, 25, 26, 27, 28, 29, 30, 31, 32, 33, 34, 35, 36, 37, 38, 39, 40, 41, 42, 43, 44, 45, 46, 47, 48, 49, 50, 51, 52, 53, 54, 55, 56, 57, 58, 59, 60, 61, 62, 63, 64, 65, 66, 67, 68, 69, 70] (by decide +kernel) (by decide +kernel)
set_option maxRecDepth 20000 in
theorem gX12_dueIn_X12_textIn : GoodIn wsX12_dueIn (wsV RX12 200 RX12 yX12_textIn wsX12_textIn) := goodIn_app (goodIn_of _ (by decide +kernel)) ggX12_dueIn_X12_textIn
set_option maxRecDepth 20000 in
theorem ggX12_dueIn_X12_priceIn : GoodIn wsX12_dueIn wsX12_priceIn := goodIn_r _ [15, 16, 17, 18, 19, 20, 21, 22, 23, 24, 25, 26, 27, 28, 29, 30, 31, 32, 33, 34, 35, 36, 37, 38, 39, 40, 41, 42, 43, 44, 45, 46, 47, 48, 49, 50, 51, 52, 53, 54, 55, 56, 57, 58, 59, 60, 61, 62, 63, 64, 65, 66, 67, 68, 69, 70] (by decide +kernel) (by decide +kernel)
set_option maxRecDepth 20000 in
theorem gX12_dueIn_X12_priceIn : GoodIn wsX12_dueIn (wsV RX12 186 RX12 yX12_priceIn wsX12_priceIn) := goodIn_app (goodIn_of _ (by decide +kernel)) ggX12_dueIn_X12_priceIn
theorem dX12_dueIn_0 : decode cX12_dueIn 0 = .ok (.aload_n 0, 1) := by decide +kernel
theorem dX12_dueIn_1 : decode cX12_dueIn 1 = .ok (.iload_n 2, 1) := by decide +kernel
theorem dX12_dueIn_2 : decode cX12_dueIn 2 = .ok (.invokevirtual 200, 3) := by decide +kernel
theorem dX12_dueIn_5 : decode cX12_dueIn 5 = .ok (.istore_n 3, 1) := by decide +kernel
theorem dX12_dueIn_6 : decode cX12_dueIn 6 = .ok (.iload_n 3, 1) := by decide +kernel
theorem dX12_dueIn_7 : decode cX12_dueIn 7 = .ok (.ifCond .ge 5, 3) := by decide +kernel
theorem dX12_dueIn_10 : decode cX12_dueIn 10 = .ok (.iconst 0, 1) := by decide +kernel
theorem dX12_dueIn_11 : decode cX12_dueIn 11 = .ok (.ireturn, 1) := by decide +kernel
theorem dX12_dueIn_12 : decode cX12_dueIn 12 = .ok (.aload_n 0, 1) := by decide +kernel
theorem dX12_dueIn_13 : decode cX12_dueIn 13 = .ok (.iload_n 2, 1) := by decide +kernel
theorem dX12_dueIn_14 : decode cX12_dueIn 14 = .ok (.iconst 1, 1) := by decide +kernel
theorem dX12_dueIn_15 : decode cX12_dueIn 15 = .ok (.isub, 1) := by decide +kernel
theorem dX12_dueIn_16 : decode cX12_dueIn 16 = .ok (.invokevirtual 186, 3) := by decide +kernel
theorem dX12_dueIn_19 : decode cX12_dueIn 19 = .ok (.istore 4, 2) := by decide +kernel
theorem dX12_dueIn_21 : decode cX12_dueIn 21 = .ok (.iconst (-1), 1) := by decide +kernel
theorem dX12_dueIn_22 : decode cX12_dueIn 22 = .ok (.istore 5, 2) := by decide +kernel
theorem dX12_dueIn_24 : decode cX12_dueIn 24 = .ok (.bipush 8, 2) := by decide +kernel
theorem dX12_dueIn_26 : decode cX12_dueIn 26 = .ok (.iload_n 3, 1) := by decide +kernel
theorem dX12_dueIn_27 : decode cX12_dueIn 27 = .ok (.imul, 1) := by decide +kernel
theorem dX12_dueIn_28 : decode cX12_dueIn 28 = .ok (.istore 6, 2) := by decide +kernel
theorem dX12_dueIn_30 : decode cX12_dueIn 30 = .ok (.iload 6, 2) := by decide +kernel
theorem dX12_dueIn_32 : decode cX12_dueIn 32 = .ok (.bipush 8, 2) := by decide +kernel
theorem dX12_dueIn_34 : decode cX12_dueIn 34 = .ok (.iload_n 3, 1) := by decide +kernel
theorem dX12_dueIn_35 : decode cX12_dueIn 35 = .ok (.imul, 1) := by decide +kernel
theorem dX12_dueIn_36 : decode cX12_dueIn 36 = .ok (.aload_n 0, 1) := by decide +kernel
theorem dX12_dueIn_37 : decode cX12_dueIn 37 = .ok (.getfield 93, 3) := by decide +kernel
theorem dX12_dueIn_40 : decode cX12_dueIn 40 = .ok (.iload_n 3, 1) := by decide +kernel
theorem dX12_dueIn_41 : decode cX12_dueIn 41 = .ok (.iaload, 1) := by decide +kernel
theorem dX12_dueIn_42 : decode cX12_dueIn 42 = .ok (.iadd, 1) := by decide +kernel
theorem dX12_dueIn_43 : decode cX12_dueIn 43 = .ok (.if_icmp .ge 47, 3) := by decide +kernel
theorem dX12_dueIn_46 : decode cX12_dueIn 46 = .ok (.aload_n 0, 1) := by decide +kernel
theorem dX12_dueIn_47 : decode cX12_dueIn 47 = .ok (.getfield 87, 3) := by decide +kernel
theorem dX12_dueIn_50 : decode cX12_dueIn 50 = .ok (.iload 6, 2) := by decide +kernel
theorem dX12_dueIn_52 : decode cX12_dueIn 52 = .ok (.iaload, 1) := by decide +kernel
theorem dX12_dueIn_53 : decode cX12_dueIn 53 = .ok (.iload 4, 2) := by decide +kernel
theorem dX12_dueIn_55 : decode cX12_dueIn 55 = .ok (.if_icmp .gt 29, 3) := by decide +kernel
theorem dX12_dueIn_58 : decode cX12_dueIn 58 = .ok (.iload 5, 2) := by decide +kernel
theorem dX12_dueIn_60 : decode cX12_dueIn 60 = .ok (.ifCond .lt 20, 3) := by decide +kernel
theorem dX12_dueIn_63 : decode cX12_dueIn 63 = .ok (.aload_n 0, 1) := by decide +kernel
theorem dX12_dueIn_64 : decode cX12_dueIn 64 = .ok (.getfield 87, 3) := by decide +kernel
theorem dX12_dueIn_67 : decode cX12_dueIn 67 = .ok (.iload 6, 2) := by decide +kernel
theorem dX12_dueIn_69 : decode cX12_dueIn 69 = .ok (.iaload, 1) := by decide +kernel
theorem dX12_dueIn_70 : decode cX12_dueIn 70 = .ok (.aload_n 0, 1) := by decide +kernel
theorem dX12_dueIn_71 : decode cX12_dueIn 71 = .ok (.getfield 87, 3) := by decide +kernel
theorem dX12_dueIn_74 : decode cX12_dueIn 74 = .ok (.iload 5, 2) := by decide +kernel
theorem dX12_dueIn_76 : decode cX12_dueIn 76 = .ok (.iaload, 1) := by decide +kernel
theorem dX12_dueIn_77 : decode cX12_dueIn 77 = .ok (.if_icmp .lt 7, 3) := by decide +kernel
theorem dX12_dueIn_80 : decode cX12_dueIn 80 = .ok (.iload 6, 2) := by decide +kernel
theorem dX12_dueIn_82 : decode cX12_dueIn 82 = .ok (.istore 5, 2) := by decide +kernel
theorem dX12_dueIn_84 : decode cX12_dueIn 84 = .ok (.iinc 6 1, 3) := by decide +kernel
theorem dX12_dueIn_87 : decode cX12_dueIn 87 = .ok (.goto (-57), 3) := by decide +kernel
theorem dX12_dueIn_90 : decode cX12_dueIn 90 = .ok (.iload 5, 2) := by decide +kernel
theorem dX12_dueIn_92 : decode cX12_dueIn 92 = .ok (.ifCond .ge 7, 3) := by decide +kernel
theorem dX12_dueIn_95 : decode cX12_dueIn 95 = .ok (.iconst 0, 1) := by decide +kernel
theorem dX12_dueIn_96 : decode cX12_dueIn 96 = .ok (.goto 24, 3) := by decide +kernel
theorem dX12_dueIn_99 : decode cX12_dueIn 99 = .ok (.aload_n 0, 1) := by decide +kernel
theorem dX12_dueIn_100 : decode cX12_dueIn 100 = .ok (.getfield 90, 3) := by decide +kernel
theorem dX12_dueIn_103 : decode cX12_dueIn 103 = .ok (.iload 5, 2) := by decide +kernel
theorem dX12_dueIn_105 : decode cX12_dueIn 105 = .ok (.iaload, 1) := by decide +kernel
theorem dX12_dueIn_106 : decode cX12_dueIn 106 = .ok (.aload_n 0, 1) := by decide +kernel
theorem dX12_dueIn_107 : decode cX12_dueIn 107 = .ok (.getfield 81, 3) := by decide +kernel
theorem dX12_dueIn_110 : decode cX12_dueIn 110 = .ok (.iconst 3, 1) := by decide +kernel
theorem dX12_dueIn_111 : decode cX12_dueIn 111 = .ok (.iload_n 3, 1) := by decide +kernel
theorem dX12_dueIn_112 : decode cX12_dueIn 112 = .ok (.imul, 1) := by decide +kernel
theorem dX12_dueIn_113 : decode cX12_dueIn 113 = .ok (.iload_n 1, 1) := by decide +kernel
theorem dX12_dueIn_114 : decode cX12_dueIn 114 = .ok (.iadd, 1) := by decide +kernel
theorem dX12_dueIn_115 : decode cX12_dueIn 115 = .ok (.iaload, 1) := by decide +kernel
theorem dX12_dueIn_116 : decode cX12_dueIn 116 = .ok (.imul, 1) := by decide +kernel
theorem dX12_dueIn_117 : decode cX12_dueIn 117 = .ok (.bipush 100, 2) := by decide +kernel
theorem dX12_dueIn_119 : decode cX12_dueIn 119 = .ok (.idiv, 1) := by decide +kernel
theorem dX12_dueIn_120 : decode cX12_dueIn 120 = .ok (.ireturn, 1) := by decide +kernel
set_option maxRecDepth 20000 in
theorem ggX12_due_X12_in : GoodIn wsX12_due wsX12_in := goodIn_r _ [6] (by decide +kernel) (by decide +kernel)
set_option maxRecDepth 20000 in
theorem gX12_due_X12_in : GoodIn wsX12_due (va_wsS RX12 123 yX12_in wsX12_in) := goodIn_app (goodIn_of _ (by decide +kernel)) ggX12_due_X12_in
set_option maxRecDepth 20000 in
theorem ggX12_due_X12_dueIn : GoodIn wsX12_due wsX12_dueIn := goodIn_r _ [10, 11, 12, 13, 14, 15, 16, 17, 5, 18, 19, 20, 21, 22, 23, 24, 25, 26, 27, 28, 29, 30, 31, 32, 33, 34, 35, 36, 37, 38, 39, 40, 41, 42, 43, 44, 45, 46, 47, 48, 49, 50, 51, 52, 53, 54, 55, 56, 57, 58, 59, 60, 61, 62, 63, 64, 65, 66, 67, 68, 69, 70, 71, 72, 73, 74, 75, 76, 77, 78, 79] (by decide +kernel) (by decide +kernel)
set_option maxRecDepth 20000 in
theorem gX12_due_X12_dueIn : GoodIn wsX12_due (wsV RX12 203 RX12 yX12_dueIn wsX12_dueIn) := goodIn_app (goodIn_of _ (by decide +kernel)) ggX12_due_X12_dueIn
theorem dX12_due_0 : decode cX12_due 0 = .ok (.iload_n 2, 1) := by decide +kernel
theorem dX12_due_1 : decode cX12_due 1 = .ok (.i2l, 1) := by decide +kernel
theorem dX12_due_2 : decode cX12_due 2 = .ok (.lconst 0, 1) := by decide +kernel
theorem dX12_due_3 : decode cX12_due 3 = .ok (.aload_n 0, 1) := by decide +kernel
theorem dX12_due_4 : decode cX12_due 4 = .ok (.getfield 130, 3) := by decide +kernel
theorem dX12_due_7 : decode cX12_due 7 = .ok (.i2l, 1) := by decide +kernel
theorem dX12_due_8 : decode cX12_due 8 = .ok (.invokestatic 123, 3) := by decide +kernel
theorem dX12_due_11 : decode cX12_due 11 = .ok (.ifCond .ne 5, 3) := by decide +kernel
theorem dX12_due_14 : decode cX12_due 14 = .ok (.iconst (-1), 1) := by decide +kernel
theorem dX12_due_15 : decode cX12_due 15 = .ok (.ireturn, 1) := by decide +kernel
theorem dX12_due_16 : decode cX12_due 16 = .ok (.iload_n 1, 1) := by decide +kernel
theorem dX12_due_17 : decode cX12_due 17 = .ok (.i2l, 1) := by decide +kernel
theorem dX12_due_18 : decode cX12_due 18 = .ok (.lconst 0, 1) := by decide +kernel
theorem dX12_due_19 : decode cX12_due 19 = .ok (.ldc2_w 180, 3) := by decide +kernel
theorem dX12_due_22 : decode cX12_due 22 = .ok (.invokestatic 123, 3) := by decide +kernel
theorem dX12_due_25 : decode cX12_due 25 = .ok (.ifCond .eq 12, 3) := by decide +kernel
theorem dX12_due_28 : decode cX12_due 28 = .ok (.aload_n 0, 1) := by decide +kernel
theorem dX12_due_29 : decode cX12_due 29 = .ok (.iload_n 1, 1) := by decide +kernel
theorem dX12_due_30 : decode cX12_due 30 = .ok (.iload_n 2, 1) := by decide +kernel
theorem dX12_due_31 : decode cX12_due 31 = .ok (.invokevirtual 203, 3) := by decide +kernel
theorem dX12_due_34 : decode cX12_due 34 = .ok (.goto 5, 3) := by decide +kernel
theorem dX12_due_37 : decode cX12_due 37 = .ok (.bipush (-2), 2) := by decide +kernel
theorem dX12_due_39 : decode cX12_due 39 = .ok (.ireturn, 1) := by decide +kernel
theorem dX12_flourOf_0 : decode cX12_flourOf 0 = .ok (.iconst 0, 1) := by decide +kernel
theorem dX12_flourOf_1 : decode cX12_flourOf 1 = .ok (.istore_n 2, 1) := by decide +kernel
theorem dX12_flourOf_2 : decode cX12_flourOf 2 = .ok (.iconst 0, 1) := by decide +kernel
theorem dX12_flourOf_3 : decode cX12_flourOf 3 = .ok (.istore_n 3, 1) := by decide +kernel
theorem dX12_flourOf_4 : decode cX12_flourOf 4 = .ok (.iload_n 3, 1) := by decide +kernel
theorem dX12_flourOf_5 : decode cX12_flourOf 5 = .ok (.aload_n 0, 1) := by decide +kernel
theorem dX12_flourOf_6 : decode cX12_flourOf 6 = .ok (.getfield 127, 3) := by decide +kernel
theorem dX12_flourOf_9 : decode cX12_flourOf 9 = .ok (.if_icmp .ge 42, 3) := by decide +kernel
theorem dX12_flourOf_12 : decode cX12_flourOf 12 = .ok (.iload_n 2, 1) := by decide +kernel
theorem dX12_flourOf_13 : decode cX12_flourOf 13 = .ok (.aload_n 0, 1) := by decide +kernel
theorem dX12_flourOf_14 : decode cX12_flourOf 14 = .ok (.getfield 7, 3) := by decide +kernel
theorem dX12_flourOf_17 : decode cX12_flourOf 17 = .ok (.iload_n 3, 1) := by decide +kernel
theorem dX12_flourOf_18 : decode cX12_flourOf 18 = .ok (.iaload, 1) := by decide +kernel
theorem dX12_flourOf_19 : decode cX12_flourOf 19 = .ok (.iconst 1, 1) := by decide +kernel
theorem dX12_flourOf_20 : decode cX12_flourOf 20 = .ok (.if_icmp .ne 22, 3) := by decide +kernel
theorem dX12_flourOf_23 : decode cX12_flourOf 23 = .ok (.aload_n 0, 1) := by decide +kernel
theorem dX12_flourOf_24 : decode cX12_flourOf 24 = .ok (.getfield 19, 3) := by decide +kernel
theorem dX12_flourOf_27 : decode cX12_flourOf 27 = .ok (.iload_n 3, 1) := by decide +kernel
theorem dX12_flourOf_28 : decode cX12_flourOf 28 = .ok (.iaload, 1) := by decide +kernel
theorem dX12_flourOf_29 : decode cX12_flourOf 29 = .ok (.iload_n 1, 1) := by decide +kernel
theorem dX12_flourOf_30 : decode cX12_flourOf 30 = .ok (.if_icmp .ne 12, 3) := by decide +kernel
theorem dX12_flourOf_33 : decode cX12_flourOf 33 = .ok (.aload_n 0, 1) := by decide +kernel
theorem dX12_flourOf_34 : decode cX12_flourOf 34 = .ok (.getfield 32, 3) := by decide +kernel
theorem dX12_flourOf_37 : decode cX12_flourOf 37 = .ok (.iload_n 3, 1) := by decide +kernel
theorem dX12_flourOf_38 : decode cX12_flourOf 38 = .ok (.iaload, 1) := by decide +kernel
theorem dX12_flourOf_39 : decode cX12_flourOf 39 = .ok (.goto 4, 3) := by decide +kernel
theorem dX12_flourOf_42 : decode cX12_flourOf 42 = .ok (.iconst 0, 1) := by decide +kernel
theorem dX12_flourOf_43 : decode cX12_flourOf 43 = .ok (.iadd, 1) := by decide +kernel
theorem dX12_flourOf_44 : decode cX12_flourOf 44 = .ok (.istore_n 2, 1) := by decide +kernel
theorem dX12_flourOf_45 : decode cX12_flourOf 45 = .ok (.iinc 3 1, 3) := by decide +kernel
theorem dX12_flourOf_48 : decode cX12_flourOf 48 = .ok (.goto (-44), 3) := by decide +kernel
theorem dX12_flourOf_51 : decode cX12_flourOf 51 = .ok (.iload_n 2, 1) := by decide +kernel
theorem dX12_flourOf_52 : decode cX12_flourOf 52 = .ok (.ireturn, 1) := by decide +kernel
set_option maxRecDepth 20000 in
theorem ggX12_bake_X12_isBaker : GoodIn wsX12_bake wsX12_isBaker := goodIn_r _ [24, 25, 26, 27, 23, 28, 41, 42, 43, 44, 45, 46, 47, 48, 49, 50, 51, 52, 53, 54, 55, 56, 57, 58, 59, 60, 61, 62, 63, 64, 65, 66, 67, 68, 69, 70, 71, 72, 73, 74, 75, 76, 77, 78, 79, 80, 81, 82, 83, 84, 85, 86, 87, 88, 89, 90] (by decide +kernel) (by decide +kernel)
set_option maxRecDepth 20000 in
theorem gX12_bake_X12_isBaker : GoodIn wsX12_bake (wsV RX12 159 RX12 yX12_isBaker wsX12_isBaker) := goodIn_app (goodIn_of _ (by decide +kernel)) ggX12_bake_X12_isBaker
set_option maxRecDepth 20000 in
theorem ggX12_bake_X12_in : GoodIn wsX12_bake wsX12_in := goodIn_r _ [28] (by decide +kernel) (by decide +kernel)
set_option maxRecDepth 20000 in
theorem gX12_bake_X12_in : GoodIn wsX12_bake (va_wsS RX12 123 yX12_in wsX12_in) := goodIn_app (goodIn_of _ (by decide +kernel)) ggX12_bake_X12_in
set_option maxRecDepth 20000 in
theorem ggX12_bake_X12_flourOf : GoodIn wsX12_bake wsX12_flourOf := goodIn_r _ [32, 6, 33, 14, 15, 41, 42, 43, 44, 45, 46, 47, 48, 49, 50, 51, 52, 53, 54, 55, 56, 57, 58, 59, 60, 61, 62, 63, 64, 65, 66, 67, 68, 69, 70, 71, 72, 73, 74, 75, 76, 77, 78, 79, 80, 81, 82, 83, 84, 85, 86, 87, 88, 89, 90] (by decide +kernel) (by decide +kernel)
set_option maxRecDepth 20000 in
theorem gX12_bake_X12_flourOf : GoodIn wsX12_bake (wsV RX12 210 RX12 yX12_flourOf wsX12_flourOf) := goodIn_app (goodIn_of _ (by decide +kernel)) ggX12_bake_X12_flourOf
set_option maxRecDepth 20000 in
theorem ggX12_bake_X12_enter : GoodIn wsX12_bake wsX12_enter := goodIn_r _ [37, 33, 6, 38, 4, 39, 40, 14, 41, 42, 43, 44, 45, 46, 47, 48, 49, 50, 51, 52, 53, 54, 55, 56, 57, 58, 59, 60, 61, 62, 63, 64, 65, 66, 67, 68, 69, 70, 71, 72, 73, 74, 75, 76, 77, 78, 79, 80, 81, 82, 83, 84, 85, 86, 87, 88, 89, 90] (by decide +kernel) (by decide +kernel)
set_option maxRecDepth 20000 in
theorem gX12_bake_X12_enter : GoodIn wsX12_bake (wsV RX12 167 RX12 yX12_enter wsX12_enter) := goodIn_app (goodIn_of _ (by decide +kernel)) ggX12_bake_X12_enter
theorem dX12_bake_0 : decode cX12_bake 0 = .ok (.aload_n 0, 1) := by decide +kernel
theorem dX12_bake_1 : decode cX12_bake 1 = .ok (.iload_n 1, 1) := by decide +kernel
theorem dX12_bake_2 : decode cX12_bake 2 = .ok (.invokevirtual 159, 3) := by decide +kernel
theorem dX12_bake_5 : decode cX12_bake 5 = .ok (.ifCond .ne 5, 3) := by decide +kernel
theorem dX12_bake_8 : decode cX12_bake 8 = .ok (.iconst (-1), 1) := by decide +kernel
theorem dX12_bake_9 : decode cX12_bake 9 = .ok (.ireturn, 1) := by decide +kernel
theorem dX12_bake_10 : decode cX12_bake 10 = .ok (.iload_n 2, 1) := by decide +kernel
theorem dX12_bake_11 : decode cX12_bake 11 = .ok (.i2l, 1) := by decide +kernel
theorem dX12_bake_12 : decode cX12_bake 12 = .ok (.lconst 0, 1) := by decide +kernel
theorem dX12_bake_13 : decode cX12_bake 13 = .ok (.ldc2_w 180, 3) := by decide +kernel
theorem dX12_bake_16 : decode cX12_bake 16 = .ok (.invokestatic 123, 3) := by decide +kernel
theorem dX12_bake_19 : decode cX12_bake 19 = .ok (.ifCond .eq 28, 3) := by decide +kernel
theorem dX12_bake_22 : decode cX12_bake 22 = .ok (.iload_n 3, 1) := by decide +kernel
theorem dX12_bake_23 : decode cX12_bake 23 = .ok (.i2l, 1) := by decide +kernel
theorem dX12_bake_24 : decode cX12_bake 24 = .ok (.lconst 1, 1) := by decide +kernel
theorem dX12_bake_25 : decode cX12_bake 25 = .ok (.ldc2_w 206, 3) := by decide +kernel
theorem dX12_bake_28 : decode cX12_bake 28 = .ok (.invokestatic 123, 3) := by decide +kernel
theorem dX12_bake_31 : decode cX12_bake 31 = .ok (.ifCond .eq 16, 3) := by decide +kernel
theorem dX12_bake_34 : decode cX12_bake 34 = .ok (.iload 4, 2) := by decide +kernel
theorem dX12_bake_36 : decode cX12_bake 36 = .ok (.i2l, 1) := by decide +kernel
theorem dX12_bake_37 : decode cX12_bake 37 = .ok (.lconst 1, 1) := by decide +kernel
theorem dX12_bake_38 : decode cX12_bake 38 = .ok (.ldc2_w 208, 3) := by decide +kernel
theorem dX12_bake_41 : decode cX12_bake 41 = .ok (.invokestatic 123, 3) := by decide +kernel
theorem dX12_bake_44 : decode cX12_bake 44 = .ok (.ifCond .ne 6, 3) := by decide +kernel
theorem dX12_bake_47 : decode cX12_bake 47 = .ok (.bipush (-2), 2) := by decide +kernel
theorem dX12_bake_49 : decode cX12_bake 49 = .ok (.ireturn, 1) := by decide +kernel
theorem dX12_bake_50 : decode cX12_bake 50 = .ok (.aload_n 0, 1) := by decide +kernel
theorem dX12_bake_51 : decode cX12_bake 51 = .ok (.getfield 130, 3) := by decide +kernel
theorem dX12_bake_54 : decode cX12_bake 54 = .ok (.aload_n 0, 1) := by decide +kernel
theorem dX12_bake_55 : decode cX12_bake 55 = .ok (.getfield 72, 3) := by decide +kernel
theorem dX12_bake_58 : decode cX12_bake 58 = .ok (.iload_n 1, 1) := by decide +kernel
theorem dX12_bake_59 : decode cX12_bake 59 = .ok (.iaload, 1) := by decide +kernel
theorem dX12_bake_60 : decode cX12_bake 60 = .ok (.if_icmp .ge 6, 3) := by decide +kernel
theorem dX12_bake_63 : decode cX12_bake 63 = .ok (.bipush (-3), 2) := by decide +kernel
theorem dX12_bake_65 : decode cX12_bake 65 = .ok (.ireturn, 1) := by decide +kernel
theorem dX12_bake_66 : decode cX12_bake 66 = .ok (.aload_n 0, 1) := by decide +kernel
theorem dX12_bake_67 : decode cX12_bake 67 = .ok (.getfield 127, 3) := by decide +kernel
theorem dX12_bake_70 : decode cX12_bake 70 = .ok (.sipush 200, 3) := by decide +kernel
theorem dX12_bake_73 : decode cX12_bake 73 = .ok (.if_icmp .ne 6, 3) := by decide +kernel
theorem dX12_bake_76 : decode cX12_bake 76 = .ok (.bipush (-4), 2) := by decide +kernel
theorem dX12_bake_78 : decode cX12_bake 78 = .ok (.ireturn, 1) := by decide +kernel
theorem dX12_bake_79 : decode cX12_bake 79 = .ok (.iload_n 3, 1) := by decide +kernel
theorem dX12_bake_80 : decode cX12_bake 80 = .ok (.iload 4, 2) := by decide +kernel
theorem dX12_bake_82 : decode cX12_bake 82 = .ok (.imul, 1) := by decide +kernel
theorem dX12_bake_83 : decode cX12_bake 83 = .ok (.istore 5, 2) := by decide +kernel
theorem dX12_bake_85 : decode cX12_bake 85 = .ok (.aload_n 0, 1) := by decide +kernel
theorem dX12_bake_86 : decode cX12_bake 86 = .ok (.iload_n 1, 1) := by decide +kernel
theorem dX12_bake_87 : decode cX12_bake 87 = .ok (.invokevirtual 210, 3) := by decide +kernel
theorem dX12_bake_90 : decode cX12_bake 90 = .ok (.iload 5, 2) := by decide +kernel
theorem dX12_bake_92 : decode cX12_bake 92 = .ok (.if_icmp .ge 6, 3) := by decide +kernel
theorem dX12_bake_95 : decode cX12_bake 95 = .ok (.bipush (-5), 2) := by decide +kernel
theorem dX12_bake_97 : decode cX12_bake 97 = .ok (.ireturn, 1) := by decide +kernel
theorem dX12_bake_98 : decode cX12_bake 98 = .ok (.aload_n 0, 1) := by decide +kernel
theorem dX12_bake_99 : decode cX12_bake 99 = .ok (.getfield 127, 3) := by decide +kernel
theorem dX12_bake_102 : decode cX12_bake 102 = .ok (.istore 6, 2) := by decide +kernel
theorem dX12_bake_104 : decode cX12_bake 104 = .ok (.aload_n 0, 1) := by decide +kernel
theorem dX12_bake_105 : decode cX12_bake 105 = .ok (.getfield 42, 3) := by decide +kernel
theorem dX12_bake_108 : decode cX12_bake 108 = .ok (.iload 6, 2) := by decide +kernel
theorem dX12_bake_110 : decode cX12_bake 110 = .ok (.iload_n 2, 1) := by decide +kernel
theorem dX12_bake_111 : decode cX12_bake 111 = .ok (.iastore, 1) := by decide +kernel
theorem dX12_bake_112 : decode cX12_bake 112 = .ok (.aload_n 0, 1) := by decide +kernel
theorem dX12_bake_113 : decode cX12_bake 113 = .ok (.getfield 45, 3) := by decide +kernel
theorem dX12_bake_116 : decode cX12_bake 116 = .ok (.iload 6, 2) := by decide +kernel
theorem dX12_bake_118 : decode cX12_bake 118 = .ok (.iload_n 3, 1) := by decide +kernel
theorem dX12_bake_119 : decode cX12_bake 119 = .ok (.iastore, 1) := by decide +kernel
theorem dX12_bake_120 : decode cX12_bake 120 = .ok (.aload_n 0, 1) := by decide +kernel
theorem dX12_bake_121 : decode cX12_bake 121 = .ok (.getfield 48, 3) := by decide +kernel
theorem dX12_bake_124 : decode cX12_bake 124 = .ok (.iload 6, 2) := by decide +kernel
theorem dX12_bake_126 : decode cX12_bake 126 = .ok (.iload 4, 2) := by decide +kernel
theorem dX12_bake_128 : decode cX12_bake 128 = .ok (.iastore, 1) := by decide +kernel
theorem dX12_bake_129 : decode cX12_bake 129 = .ok (.aload_n 0, 1) := by decide +kernel
theorem dX12_bake_130 : decode cX12_bake 130 = .ok (.getfield 51, 3) := by decide +kernel
theorem dX12_bake_133 : decode cX12_bake 133 = .ok (.iload 6, 2) := by decide +kernel
theorem dX12_bake_135 : decode cX12_bake 135 = .ok (.aload_n 0, 1) := by decide +kernel
theorem dX12_bake_136 : decode cX12_bake 136 = .ok (.getfield 213, 3) := by decide +kernel
theorem dX12_bake_139 : decode cX12_bake 139 = .ok (.iastore, 1) := by decide +kernel
theorem dX12_bake_140 : decode cX12_bake 140 = .ok (.iconst 0, 1) := by decide +kernel
theorem dX12_bake_141 : decode cX12_bake 141 = .ok (.istore 7, 2) := by decide +kernel
theorem dX12_bake_143 : decode cX12_bake 143 = .ok (.iload 7, 2) := by decide +kernel
theorem dX12_bake_145 : decode cX12_bake 145 = .ok (.aload_n 0, 1) := by decide +kernel
theorem dX12_bake_146 : decode cX12_bake 146 = .ok (.getfield 174, 3) := by decide +kernel
theorem dX12_bake_149 : decode cX12_bake 149 = .ok (.if_icmp .ge 121, 3) := by decide +kernel
theorem dX12_bake_152 : decode cX12_bake 152 = .ok (.iload 5, 2) := by decide +kernel
theorem dX12_bake_154 : decode cX12_bake 154 = .ok (.ifCond .le 116, 3) := by decide +kernel
theorem dX12_bake_157 : decode cX12_bake 157 = .ok (.aload_n 0, 1) := by decide +kernel
theorem dX12_bake_158 : decode cX12_bake 158 = .ok (.getfield 35, 3) := by decide +kernel
theorem dX12_bake_161 : decode cX12_bake 161 = .ok (.iload 7, 2) := by decide +kernel
theorem dX12_bake_163 : decode cX12_bake 163 = .ok (.iaload, 1) := by decide +kernel
theorem dX12_bake_164 : decode cX12_bake 164 = .ok (.istore 8, 2) := by decide +kernel
theorem dX12_bake_166 : decode cX12_bake 166 = .ok (.aload_n 0, 1) := by decide +kernel
theorem dX12_bake_167 : decode cX12_bake 167 = .ok (.getfield 19, 3) := by decide +kernel
theorem dX12_bake_170 : decode cX12_bake 170 = .ok (.iload 8, 2) := by decide +kernel
theorem dX12_bake_172 : decode cX12_bake 172 = .ok (.iaload, 1) := by decide +kernel
theorem dX12_bake_173 : decode cX12_bake 173 = .ok (.iload_n 1, 1) := by decide +kernel
theorem dX12_bake_174 : decode cX12_bake 174 = .ok (.if_icmp .ne 90, 3) := by decide +kernel
theorem dX12_bake_177 : decode cX12_bake 177 = .ok (.aload_n 0, 1) := by decide +kernel
theorem dX12_bake_178 : decode cX12_bake 178 = .ok (.getfield 32, 3) := by decide +kernel
theorem dX12_bake_181 : decode cX12_bake 181 = .ok (.iload 8, 2) := by decide +kernel
theorem dX12_bake_183 : decode cX12_bake 183 = .ok (.iaload, 1) := by decide +kernel
theorem dX12_bake_184 : decode cX12_bake 184 = .ok (.ifCond .le 80, 3) := by decide +kernel
theorem dX12_bake_187 : decode cX12_bake 187 = .ok (.aload_n 0, 1) := by decide +kernel
theorem dX12_bake_188 : decode cX12_bake 188 = .ok (.getfield 32, 3) := by decide +kernel
theorem dX12_bake_191 : decode cX12_bake 191 = .ok (.iload 8, 2) := by decide +kernel
theorem dX12_bake_193 : decode cX12_bake 193 = .ok (.iaload, 1) := by decide +kernel
theorem dX12_bake_194 : decode cX12_bake 194 = .ok (.iload 5, 2) := by decide +kernel
theorem dX12_bake_196 : decode cX12_bake 196 = .ok (.if_icmp .ge 13, 3) := by decide +kernel
theorem dX12_bake_199 : decode cX12_bake 199 = .ok (.aload_n 0, 1) := by decide +kernel
theorem dX12_bake_200 : decode cX12_bake 200 = .ok (.getfield 32, 3) := by decide +kernel
theorem dX12_bake_203 : decode cX12_bake 203 = .ok (.iload 8, 2) := by decide +kernel
theorem dX12_bake_205 : decode cX12_bake 205 = .ok (.iaload, 1) := by decide +kernel
theorem dX12_bake_206 : decode cX12_bake 206 = .ok (.goto 5, 3) := by decide +kernel
theorem dX12_bake_209 : decode cX12_bake 209 = .ok (.iload 5, 2) := by decide +kernel
theorem dX12_bake_211 : decode cX12_bake 211 = .ok (.istore 9, 2) := by decide +kernel
theorem dX12_bake_213 : decode cX12_bake 213 = .ok (.aload_n 0, 1) := by decide +kernel
theorem dX12_bake_214 : decode cX12_bake 214 = .ok (.getfield 32, 3) := by decide +kernel
theorem dX12_bake_217 : decode cX12_bake 217 = .ok (.iload 8, 2) := by decide +kernel
theorem dX12_bake_219 : decode cX12_bake 219 = .ok (.dup2, 1) := by decide +kernel
theorem dX12_bake_220 : decode cX12_bake 220 = .ok (.iaload, 1) := by decide +kernel
theorem dX12_bake_221 : decode cX12_bake 221 = .ok (.iload 9, 2) := by decide +kernel
theorem dX12_bake_223 : decode cX12_bake 223 = .ok (.isub, 1) := by decide +kernel
theorem dX12_bake_224 : decode cX12_bake 224 = .ok (.iastore, 1) := by decide +kernel
theorem dX12_bake_225 : decode cX12_bake 225 = .ok (.iload 5, 2) := by decide +kernel
theorem dX12_bake_227 : decode cX12_bake 227 = .ok (.iload 9, 2) := by decide +kernel
theorem dX12_bake_229 : decode cX12_bake 229 = .ok (.isub, 1) := by decide +kernel
theorem dX12_bake_230 : decode cX12_bake 230 = .ok (.istore 5, 2) := by decide +kernel
theorem dX12_bake_232 : decode cX12_bake 232 = .ok (.aload_n 0, 1) := by decide +kernel
theorem dX12_bake_233 : decode cX12_bake 233 = .ok (.getfield 57, 3) := by decide +kernel
theorem dX12_bake_236 : decode cX12_bake 236 = .ok (.aload_n 0, 1) := by decide +kernel
theorem dX12_bake_237 : decode cX12_bake 237 = .ok (.getfield 213, 3) := by decide +kernel
theorem dX12_bake_240 : decode cX12_bake 240 = .ok (.iload 8, 2) := by decide +kernel
theorem dX12_bake_242 : decode cX12_bake 242 = .ok (.iastore, 1) := by decide +kernel
theorem dX12_bake_243 : decode cX12_bake 243 = .ok (.aload_n 0, 1) := by decide +kernel
theorem dX12_bake_244 : decode cX12_bake 244 = .ok (.getfield 60, 3) := by decide +kernel
theorem dX12_bake_247 : decode cX12_bake 247 = .ok (.aload_n 0, 1) := by decide +kernel
theorem dX12_bake_248 : decode cX12_bake 248 = .ok (.getfield 213, 3) := by decide +kernel
theorem dX12_bake_251 : decode cX12_bake 251 = .ok (.iload 9, 2) := by decide +kernel
theorem dX12_bake_253 : decode cX12_bake 253 = .ok (.iastore, 1) := by decide +kernel
theorem dX12_bake_254 : decode cX12_bake 254 = .ok (.aload_n 0, 1) := by decide +kernel
theorem dX12_bake_255 : decode cX12_bake 255 = .ok (.dup, 1) := by decide +kernel
theorem dX12_bake_256 : decode cX12_bake 256 = .ok (.getfield 213, 3) := by decide +kernel
theorem dX12_bake_259 : decode cX12_bake 259 = .ok (.iconst 1, 1) := by decide +kernel
theorem dX12_bake_260 : decode cX12_bake 260 = .ok (.iadd, 1) := by decide +kernel
theorem dX12_bake_261 : decode cX12_bake 261 = .ok (.putfield 213, 3) := by decide +kernel
theorem dX12_bake_264 : decode cX12_bake 264 = .ok (.iinc 7 1, 3) := by decide +kernel
theorem dX12_bake_267 : decode cX12_bake 267 = .ok (.goto (-124), 3) := by decide +kernel
theorem dX12_bake_270 : decode cX12_bake 270 = .ok (.aload_n 0, 1) := by decide +kernel
theorem dX12_bake_271 : decode cX12_bake 271 = .ok (.getfield 54, 3) := by decide +kernel
theorem dX12_bake_274 : decode cX12_bake 274 = .ok (.iload 6, 2) := by decide +kernel
theorem dX12_bake_276 : decode cX12_bake 276 = .ok (.aload_n 0, 1) := by decide +kernel
theorem dX12_bake_277 : decode cX12_bake 277 = .ok (.getfield 213, 3) := by decide +kernel
theorem dX12_bake_280 : decode cX12_bake 280 = .ok (.aload_n 0, 1) := by decide +kernel
theorem dX12_bake_281 : decode cX12_bake 281 = .ok (.getfield 51, 3) := by decide +kernel
theorem dX12_bake_284 : decode cX12_bake 284 = .ok (.iload 6, 2) := by decide +kernel
theorem dX12_bake_286 : decode cX12_bake 286 = .ok (.iaload, 1) := by decide +kernel
theorem dX12_bake_287 : decode cX12_bake 287 = .ok (.isub, 1) := by decide +kernel
theorem dX12_bake_288 : decode cX12_bake 288 = .ok (.iastore, 1) := by decide +kernel
theorem dX12_bake_289 : decode cX12_bake 289 = .ok (.aload_n 0, 1) := by decide +kernel
theorem dX12_bake_290 : decode cX12_bake 290 = .ok (.getfield 75, 3) := by decide +kernel
theorem dX12_bake_293 : decode cX12_bake 293 = .ok (.iload_n 1, 1) := by decide +kernel
theorem dX12_bake_294 : decode cX12_bake 294 = .ok (.iload 6, 2) := by decide +kernel
theorem dX12_bake_296 : decode cX12_bake 296 = .ok (.iastore, 1) := by decide +kernel
theorem dX12_bake_297 : decode cX12_bake 297 = .ok (.aload_n 0, 1) := by decide +kernel
theorem dX12_bake_298 : decode cX12_bake 298 = .ok (.iconst 2, 1) := by decide +kernel
theorem dX12_bake_299 : decode cX12_bake 299 = .ok (.iload_n 1, 1) := by decide +kernel
theorem dX12_bake_300 : decode cX12_bake 300 = .ok (.invokevirtual 167, 3) := by decide +kernel
theorem dX12_bake_303 : decode cX12_bake 303 = .ok (.ireturn, 1) := by decide +kernel
theorem dX12_drawTurns_0 : decode cX12_drawTurns 0 = .ok (.aload_n 0, 1) := by decide +kernel
theorem dX12_drawTurns_1 : decode cX12_drawTurns 1 = .ok (.getfield 156, 3) := by decide +kernel
theorem dX12_drawTurns_4 : decode cX12_drawTurns 4 = .ok (.ifCond .le 4, 3) := by decide +kernel
theorem dX12_drawTurns_7 : decode cX12_drawTurns 7 = .ok (.return_, 1) := by decide +kernel
theorem dX12_drawTurns_8 : decode cX12_drawTurns 8 = .ok (.iconst 0, 1) := by decide +kernel
theorem dX12_drawTurns_9 : decode cX12_drawTurns 9 = .ok (.istore_n 1, 1) := by decide +kernel
theorem dX12_drawTurns_10 : decode cX12_drawTurns 10 = .ok (.iload_n 1, 1) := by decide +kernel
theorem dX12_drawTurns_11 : decode cX12_drawTurns 11 = .ok (.aload_n 0, 1) := by decide +kernel
theorem dX12_drawTurns_12 : decode cX12_drawTurns 12 = .ok (.getfield 120, 3) := by decide +kernel
theorem dX12_drawTurns_15 : decode cX12_drawTurns 15 = .ok (.if_icmp .ge 16, 3) := by decide +kernel
theorem dX12_drawTurns_18 : decode cX12_drawTurns 18 = .ok (.aload_n 0, 1) := by decide +kernel
theorem dX12_drawTurns_19 : decode cX12_drawTurns 19 = .ok (.getfield 96, 3) := by decide +kernel
theorem dX12_drawTurns_22 : decode cX12_drawTurns 22 = .ok (.iload_n 1, 1) := by decide +kernel
theorem dX12_drawTurns_23 : decode cX12_drawTurns 23 = .ok (.iload_n 1, 1) := by decide +kernel
theorem dX12_drawTurns_24 : decode cX12_drawTurns 24 = .ok (.iastore, 1) := by decide +kernel
theorem dX12_drawTurns_25 : decode cX12_drawTurns 25 = .ok (.iinc 1 1, 3) := by decide +kernel
theorem dX12_drawTurns_28 : decode cX12_drawTurns 28 = .ok (.goto (-18), 3) := by decide +kernel
theorem dX12_drawTurns_31 : decode cX12_drawTurns 31 = .ok (.aload_n 0, 1) := by decide +kernel
theorem dX12_drawTurns_32 : decode cX12_drawTurns 32 = .ok (.getfield 120, 3) := by decide +kernel
theorem dX12_drawTurns_35 : decode cX12_drawTurns 35 = .ok (.iconst 1, 1) := by decide +kernel
theorem dX12_drawTurns_36 : decode cX12_drawTurns 36 = .ok (.isub, 1) := by decide +kernel
theorem dX12_drawTurns_37 : decode cX12_drawTurns 37 = .ok (.istore_n 1, 1) := by decide +kernel
theorem dX12_drawTurns_38 : decode cX12_drawTurns 38 = .ok (.iload_n 1, 1) := by decide +kernel
theorem dX12_drawTurns_39 : decode cX12_drawTurns 39 = .ok (.ifCond .le 65, 3) := by decide +kernel
theorem dX12_drawTurns_42 : decode cX12_drawTurns 42 = .ok (.aload_n 0, 1) := by decide +kernel
theorem dX12_drawTurns_43 : decode cX12_drawTurns 43 = .ok (.aload_n 0, 1) := by decide +kernel
theorem dX12_drawTurns_44 : decode cX12_drawTurns 44 = .ok (.getfield 99, 3) := by decide +kernel
theorem dX12_drawTurns_47 : decode cX12_drawTurns 47 = .ok (.ldc 216, 2) := by decide +kernel
theorem dX12_drawTurns_49 : decode cX12_drawTurns 49 = .ok (.imul, 1) := by decide +kernel
theorem dX12_drawTurns_50 : decode cX12_drawTurns 50 = .ok (.sipush 12345, 3) := by decide +kernel
theorem dX12_drawTurns_53 : decode cX12_drawTurns 53 = .ok (.iadd, 1) := by decide +kernel
theorem dX12_drawTurns_54 : decode cX12_drawTurns 54 = .ok (.ldc 217, 2) := by decide +kernel
theorem dX12_drawTurns_56 : decode cX12_drawTurns 56 = .ok (.iand, 1) := by decide +kernel
theorem dX12_drawTurns_57 : decode cX12_drawTurns 57 = .ok (.putfield 99, 3) := by decide +kernel
theorem dX12_drawTurns_60 : decode cX12_drawTurns 60 = .ok (.aload_n 0, 1) := by decide +kernel
theorem dX12_drawTurns_61 : decode cX12_drawTurns 61 = .ok (.getfield 99, 3) := by decide +kernel
theorem dX12_drawTurns_64 : decode cX12_drawTurns 64 = .ok (.ldc 218, 2) := by decide +kernel
theorem dX12_drawTurns_66 : decode cX12_drawTurns 66 = .ok (.idiv, 1) := by decide +kernel
theorem dX12_drawTurns_67 : decode cX12_drawTurns 67 = .ok (.iload_n 1, 1) := by decide +kernel
theorem dX12_drawTurns_68 : decode cX12_drawTurns 68 = .ok (.iconst 1, 1) := by decide +kernel
theorem dX12_drawTurns_69 : decode cX12_drawTurns 69 = .ok (.iadd, 1) := by decide +kernel
theorem dX12_drawTurns_70 : decode cX12_drawTurns 70 = .ok (.irem, 1) := by decide +kernel
theorem dX12_drawTurns_71 : decode cX12_drawTurns 71 = .ok (.istore_n 2, 1) := by decide +kernel
theorem dX12_drawTurns_72 : decode cX12_drawTurns 72 = .ok (.aload_n 0, 1) := by decide +kernel
theorem dX12_drawTurns_73 : decode cX12_drawTurns 73 = .ok (.getfield 96, 3) := by decide +kernel
theorem dX12_drawTurns_76 : decode cX12_drawTurns 76 = .ok (.iload_n 1, 1) := by decide +kernel
theorem dX12_drawTurns_77 : decode cX12_drawTurns 77 = .ok (.iaload, 1) := by decide +kernel
theorem dX12_drawTurns_78 : decode cX12_drawTurns 78 = .ok (.istore_n 3, 1) := by decide +kernel
theorem dX12_drawTurns_79 : decode cX12_drawTurns 79 = .ok (.aload_n 0, 1) := by decide +kernel
theorem dX12_drawTurns_80 : decode cX12_drawTurns 80 = .ok (.getfield 96, 3) := by decide +kernel
theorem dX12_drawTurns_83 : decode cX12_drawTurns 83 = .ok (.iload_n 1, 1) := by decide +kernel
theorem dX12_drawTurns_84 : decode cX12_drawTurns 84 = .ok (.aload_n 0, 1) := by decide +kernel
theorem dX12_drawTurns_85 : decode cX12_drawTurns 85 = .ok (.getfield 96, 3) := by decide +kernel
theorem dX12_drawTurns_88 : decode cX12_drawTurns 88 = .ok (.iload_n 2, 1) := by decide +kernel
theorem dX12_drawTurns_89 : decode cX12_drawTurns 89 = .ok (.iaload, 1) := by decide +kernel
theorem dX12_drawTurns_90 : decode cX12_drawTurns 90 = .ok (.iastore, 1) := by decide +kernel
theorem dX12_drawTurns_91 : decode cX12_drawTurns 91 = .ok (.aload_n 0, 1) := by decide +kernel
theorem dX12_drawTurns_92 : decode cX12_drawTurns 92 = .ok (.getfield 96, 3) := by decide +kernel
theorem dX12_drawTurns_95 : decode cX12_drawTurns 95 = .ok (.iload_n 2, 1) := by decide +kernel
theorem dX12_drawTurns_96 : decode cX12_drawTurns 96 = .ok (.iload_n 3, 1) := by decide +kernel
theorem dX12_drawTurns_97 : decode cX12_drawTurns 97 = .ok (.iastore, 1) := by decide +kernel
theorem dX12_drawTurns_98 : decode cX12_drawTurns 98 = .ok (.iinc 1 (-1), 3) := by decide +kernel
theorem dX12_drawTurns_101 : decode cX12_drawTurns 101 = .ok (.goto (-63), 3) := by decide +kernel
theorem dX12_drawTurns_104 : decode cX12_drawTurns 104 = .ok (.aload_n 0, 1) := by decide +kernel
theorem dX12_drawTurns_105 : decode cX12_drawTurns 105 = .ok (.aload_n 0, 1) := by decide +kernel
theorem dX12_drawTurns_106 : decode cX12_drawTurns 106 = .ok (.getfield 120, 3) := by decide +kernel
theorem dX12_drawTurns_109 : decode cX12_drawTurns 109 = .ok (.putfield 156, 3) := by decide +kernel
theorem dX12_drawTurns_112 : decode cX12_drawTurns 112 = .ok (.aload_n 0, 1) := by decide +kernel
theorem dX12_drawTurns_113 : decode cX12_drawTurns 113 = .ok (.aload_n 0, 1) := by decide +kernel
theorem dX12_drawTurns_114 : decode cX12_drawTurns 114 = .ok (.getfield 120, 3) := by decide +kernel
theorem dX12_drawTurns_117 : decode cX12_drawTurns 117 = .ok (.putfield 219, 3) := by decide +kernel
theorem dX12_drawTurns_120 : decode cX12_drawTurns 120 = .ok (.return_, 1) := by decide +kernel
theorem dX12_lessBy_0 : decode cX12_lessBy 0 = .ok (.sipush 1000, 3) := by decide +kernel
theorem dX12_lessBy_3 : decode cX12_lessBy 3 = .ok (.iload_n 1, 1) := by decide +kernel
theorem dX12_lessBy_4 : decode cX12_lessBy 4 = .ok (.iload_n 2, 1) := by decide +kernel
theorem dX12_lessBy_5 : decode cX12_lessBy 5 = .ok (.imul, 1) := by decide +kernel
theorem dX12_lessBy_6 : decode cX12_lessBy 6 = .ok (.isub, 1) := by decide +kernel
theorem dX12_lessBy_7 : decode cX12_lessBy 7 = .ok (.istore_n 3, 1) := by decide +kernel
theorem dX12_lessBy_8 : decode cX12_lessBy 8 = .ok (.iload_n 3, 1) := by decide +kernel
theorem dX12_lessBy_9 : decode cX12_lessBy 9 = .ok (.ifCond .ge 7, 3) := by decide +kernel
theorem dX12_lessBy_12 : decode cX12_lessBy 12 = .ok (.iconst 0, 1) := by decide +kernel
theorem dX12_lessBy_13 : decode cX12_lessBy 13 = .ok (.goto 10, 3) := by decide +kernel
theorem dX12_lessBy_16 : decode cX12_lessBy 16 = .ok (.iload_n 0, 1) := by decide +kernel
theorem dX12_lessBy_17 : decode cX12_lessBy 17 = .ok (.iload_n 3, 1) := by decide +kernel
theorem dX12_lessBy_18 : decode cX12_lessBy 18 = .ok (.imul, 1) := by decide +kernel
theorem dX12_lessBy_19 : decode cX12_lessBy 19 = .ok (.sipush 1000, 3) := by decide +kernel
theorem dX12_lessBy_22 : decode cX12_lessBy 22 = .ok (.idiv, 1) := by decide +kernel
theorem dX12_lessBy_23 : decode cX12_lessBy 23 = .ok (.ireturn, 1) := by decide +kernel
set_option maxRecDepth 20000 in
theorem ggX12_search_X12_drawTurns : GoodIn wsX12_search wsX12_drawTurns := goodIn_r _ [24, 5, 1, 3, 25, 26, 27, 28, 4, 58, 59, 60, 61, 62, 63, 64, 65, 66, 67, 68, 69, 70, 71, 72, 73, 74, 75, 76, 77, 78, 79, 80, 81, 82, 83, 84, 85, 86, 87, 88, 89, 90, 91, 92, 93, 94, 95, 96, 97, 98, 99, 100, 101, 102, 103, 104, 105, 106, 107] (by decide +kernel) (by decide +kernel)
set_option maxRecDepth 20000 in
theorem gX12_search_X12_drawTurns : GoodIn wsX12_search (wsV RX12 222 RX12 yX12_drawTurns wsX12_drawTurns) := goodIn_app (goodIn_of _ (by decide +kernel)) ggX12_search_X12_drawTurns
set_option maxRecDepth 20000 in
theorem ggX12_search_X12_textIn : GoodIn wsX12_search wsX12_textIn := goodIn_r _ [32, 33, 34, 58, 59, 60, 61, 62, 63, 64, 65, 66, 67, 68, 69, 70, 71, 72, 73, 74, 75, 76, 77, 78, 79, 80, 81, 82, 83, 84, 85, 86, 87, 88, 89, 90, 91, 92, 93, 94, 95, 96, 97, 98, 99, 100, 101, 102, 103, 104, 105, 106, 107] (by decide +kernel) (by decide +kernel)
set_option maxRecDepth 20000 in
theorem gX12_search_X12_textIn : GoodIn wsX12_search (wsV RX12 200 RX12 yX12_textIn wsX12_textIn) := goodIn_app (goodIn_of _ (by decide +kernel)) ggX12_search_X12_textIn
set_option maxRecDepth 20000 in
theorem ggX12_search_X12_lessBy : GoodIn wsX12_search wsX12_lessBy := goodIn_r _ [37] (by decide +kernel) (by decide +kernel)
set_option maxRecDepth 20000 in
theorem gX12_search_X12_lessBy : GoodIn wsX12_search (va_wsS RX12 225 yX12_lessBy wsX12_lessBy) := goodIn_app (goodIn_of _ (by decide +kernel)) ggX12_search_X12_lessBy
set_option maxRecDepth 20000 in
theorem ggX12_search_X12_dueIn : GoodIn wsX12_search wsX12_dueIn := goodIn_r _ [41, 42, 43, 44, 45, 29, 30, 31, 23, 32, 33, 34, 46, 47, 48, 49, 2, 50, 9, 51, 52, 58, 59, 60, 61, 62, 63, 64, 65, 66, 67, 68, 69, 70, 71, 72, 73, 74, 75, 76, 77, 78, 79, 80, 81, 82, 83, 84, 85, 86, 87, 88, 89, 90, 91, 92, 93, 94, 95, 96, 97, 98, 99, 100, 101, 102, 103, 104, 105, 106, 107] (by decide +kernel) (by decide +kernel)
set_option maxRecDepth 20000 in
theorem gX12_search_X12_dueIn : GoodIn wsX12_search (wsV RX12 203 RX12 yX12_dueIn wsX12_dueIn) := goodIn_app (goodIn_of _ (by decide +kernel)) ggX12_search_X12_dueIn
set_option maxRecDepth 20000 in
theorem ggX12_search_X12_enter : GoodIn wsX12_search wsX12_enter := goodIn_r _ [56, 50, 2, 9, 8, 11, 10, 57, 58, 59, 60, 61, 62, 63, 64, 65, 66, 67, 68, 69, 70, 71, 72, 73, 74, 75, 76, 77, 78, 79, 80, 81, 82, 83, 84, 85, 86, 87, 88, 89, 90, 91, 92, 93, 94, 95, 96, 97, 98, 99, 100, 101, 102, 103, 104, 105, 106, 107] (by decide +kernel) (by decide +kernel)
set_option maxRecDepth 20000 in
theorem gX12_search_X12_enter : GoodIn wsX12_search (wsV RX12 167 RX12 yX12_enter wsX12_enter) := goodIn_app (goodIn_of _ (by decide +kernel)) ggX12_search_X12_enter
theorem dX12_search_0 : decode cX12_search 0 = .ok (.aload_n 0, 1) := by decide +kernel
theorem dX12_search_1 : decode cX12_search 1 = .ok (.getfield 120, 3) := by decide +kernel
theorem dX12_search_4 : decode cX12_search 4 = .ok (.ifCond .ne 6, 3) := by decide +kernel
theorem dX12_search_7 : decode cX12_search 7 = .ok (.bipush (-3), 2) := by decide +kernel
theorem dX12_search_9 : decode cX12_search 9 = .ok (.ireturn, 1) := by decide +kernel
theorem dX12_search_10 : decode cX12_search 10 = .ok (.aload_n 0, 1) := by decide +kernel
theorem dX12_search_11 : decode cX12_search 11 = .ok (.getfield 127, 3) := by decide +kernel
theorem dX12_search_14 : decode cX12_search 14 = .ok (.sipush 200, 3) := by decide +kernel
theorem dX12_search_17 : decode cX12_search 17 = .ok (.if_icmp .ne 6, 3) := by decide +kernel
theorem dX12_search_20 : decode cX12_search 20 = .ok (.bipush (-4), 2) := by decide +kernel
theorem dX12_search_22 : decode cX12_search 22 = .ok (.ireturn, 1) := by decide +kernel
theorem dX12_search_23 : decode cX12_search 23 = .ok (.aload_n 0, 1) := by decide +kernel
theorem dX12_search_24 : decode cX12_search 24 = .ok (.invokevirtual 222, 3) := by decide +kernel
theorem dX12_search_27 : decode cX12_search 27 = .ok (.aload_n 0, 1) := by decide +kernel
theorem dX12_search_28 : decode cX12_search 28 = .ok (.getfield 96, 3) := by decide +kernel
theorem dX12_search_31 : decode cX12_search 31 = .ok (.aload_n 0, 1) := by decide +kernel
theorem dX12_search_32 : decode cX12_search 32 = .ok (.getfield 219, 3) := by decide +kernel
theorem dX12_search_35 : decode cX12_search 35 = .ok (.aload_n 0, 1) := by decide +kernel
theorem dX12_search_36 : decode cX12_search 36 = .ok (.getfield 156, 3) := by decide +kernel
theorem dX12_search_39 : decode cX12_search 39 = .ok (.isub, 1) := by decide +kernel
theorem dX12_search_40 : decode cX12_search 40 = .ok (.iaload, 1) := by decide +kernel
theorem dX12_search_41 : decode cX12_search 41 = .ok (.istore_n 1, 1) := by decide +kernel
theorem dX12_search_42 : decode cX12_search 42 = .ok (.aload_n 0, 1) := by decide +kernel
theorem dX12_search_43 : decode cX12_search 43 = .ok (.dup, 1) := by decide +kernel
theorem dX12_search_44 : decode cX12_search 44 = .ok (.getfield 156, 3) := by decide +kernel
theorem dX12_search_47 : decode cX12_search 47 = .ok (.iconst 1, 1) := by decide +kernel
theorem dX12_search_48 : decode cX12_search 48 = .ok (.isub, 1) := by decide +kernel
theorem dX12_search_49 : decode cX12_search 49 = .ok (.putfield 156, 3) := by decide +kernel
theorem dX12_search_52 : decode cX12_search 52 = .ok (.bipush 6, 2) := by decide +kernel
theorem dX12_search_54 : decode cX12_search 54 = .ok (.aload_n 0, 1) := by decide +kernel
theorem dX12_search_55 : decode cX12_search 55 = .ok (.getfield 127, 3) := by decide +kernel
theorem dX12_search_58 : decode cX12_search 58 = .ok (.imul, 1) := by decide +kernel
theorem dX12_search_59 : decode cX12_search 59 = .ok (.istore_n 2, 1) := by decide +kernel
theorem dX12_search_60 : decode cX12_search 60 = .ok (.aload_n 0, 1) := by decide +kernel
theorem dX12_search_61 : decode cX12_search 61 = .ok (.getfield 75, 3) := by decide +kernel
theorem dX12_search_64 : decode cX12_search 64 = .ok (.iload_n 1, 1) := by decide +kernel
theorem dX12_search_65 : decode cX12_search 65 = .ok (.iaload, 1) := by decide +kernel
theorem dX12_search_66 : decode cX12_search 66 = .ok (.istore_n 3, 1) := by decide +kernel
theorem dX12_search_67 : decode cX12_search 67 = .ok (.aload_n 0, 1) := by decide +kernel
theorem dX12_search_68 : decode cX12_search 68 = .ok (.getfield 63, 3) := by decide +kernel
theorem dX12_search_71 : decode cX12_search 71 = .ok (.iload_n 2, 1) := by decide +kernel
theorem dX12_search_72 : decode cX12_search 72 = .ok (.iload_n 3, 1) := by decide +kernel
theorem dX12_search_73 : decode cX12_search 73 = .ok (.iastore, 1) := by decide +kernel
theorem dX12_search_74 : decode cX12_search 74 = .ok (.iconst 1, 1) := by decide +kernel
theorem dX12_search_75 : decode cX12_search 75 = .ok (.istore 4, 2) := by decide +kernel
theorem dX12_search_77 : decode cX12_search 77 = .ok (.iload 4, 2) := by decide +kernel
theorem dX12_search_79 : decode cX12_search 79 = .ok (.bipush 6, 2) := by decide +kernel
theorem dX12_search_81 : decode cX12_search 81 = .ok (.if_icmp .ge 19, 3) := by decide +kernel
theorem dX12_search_84 : decode cX12_search 84 = .ok (.aload_n 0, 1) := by decide +kernel
theorem dX12_search_85 : decode cX12_search 85 = .ok (.getfield 63, 3) := by decide +kernel
theorem dX12_search_88 : decode cX12_search 88 = .ok (.iload_n 2, 1) := by decide +kernel
theorem dX12_search_89 : decode cX12_search 89 = .ok (.iload 4, 2) := by decide +kernel
theorem dX12_search_91 : decode cX12_search 91 = .ok (.iadd, 1) := by decide +kernel
theorem dX12_search_92 : decode cX12_search 92 = .ok (.iconst 0, 1) := by decide +kernel
theorem dX12_search_93 : decode cX12_search 93 = .ok (.iastore, 1) := by decide +kernel
theorem dX12_search_94 : decode cX12_search 94 = .ok (.iinc 4 1, 3) := by decide +kernel
theorem dX12_search_97 : decode cX12_search 97 = .ok (.goto (-20), 3) := by decide +kernel
theorem dX12_search_100 : decode cX12_search 100 = .ok (.iload_n 3, 1) := by decide +kernel
theorem dX12_search_101 : decode cX12_search 101 = .ok (.ifCond .lt 240, 3) := by decide +kernel
theorem dX12_search_104 : decode cX12_search 104 = .ok (.sipush 168, 3) := by decide +kernel
theorem dX12_search_107 : decode cX12_search 107 = .ok (.aload_n 0, 1) := by decide +kernel
theorem dX12_search_108 : decode cX12_search 108 = .ok (.getfield 130, 3) := by decide +kernel
theorem dX12_search_111 : decode cX12_search 111 = .ok (.aload_n 0, 1) := by decide +kernel
theorem dX12_search_112 : decode cX12_search 112 = .ok (.getfield 13, 3) := by decide +kernel
theorem dX12_search_115 : decode cX12_search 115 = .ok (.iload_n 3, 1) := by decide +kernel
theorem dX12_search_116 : decode cX12_search 116 = .ok (.iaload, 1) := by decide +kernel
theorem dX12_search_117 : decode cX12_search 117 = .ok (.isub, 1) := by decide +kernel
theorem dX12_search_118 : decode cX12_search 118 = .ok (.imul, 1) := by decide +kernel
theorem dX12_search_119 : decode cX12_search 119 = .ok (.aload_n 0, 1) := by decide +kernel
theorem dX12_search_120 : decode cX12_search 120 = .ok (.getfield 133, 3) := by decide +kernel
theorem dX12_search_123 : decode cX12_search 123 = .ok (.iadd, 1) := by decide +kernel
theorem dX12_search_124 : decode cX12_search 124 = .ok (.aload_n 0, 1) := by decide +kernel
theorem dX12_search_125 : decode cX12_search 125 = .ok (.getfield 16, 3) := by decide +kernel
theorem dX12_search_128 : decode cX12_search 128 = .ok (.iload_n 3, 1) := by decide +kernel
theorem dX12_search_129 : decode cX12_search 129 = .ok (.iaload, 1) := by decide +kernel
theorem dX12_search_130 : decode cX12_search 130 = .ok (.isub, 1) := by decide +kernel
theorem dX12_search_131 : decode cX12_search 131 = .ok (.istore 4, 2) := by decide +kernel
theorem dX12_search_133 : decode cX12_search 133 = .ok (.aload_n 0, 1) := by decide +kernel
theorem dX12_search_134 : decode cX12_search 134 = .ok (.aload_n 0, 1) := by decide +kernel
theorem dX12_search_135 : decode cX12_search 135 = .ok (.getfield 13, 3) := by decide +kernel
theorem dX12_search_138 : decode cX12_search 138 = .ok (.iload_n 3, 1) := by decide +kernel
theorem dX12_search_139 : decode cX12_search 139 = .ok (.iaload, 1) := by decide +kernel
theorem dX12_search_140 : decode cX12_search 140 = .ok (.invokevirtual 200, 3) := by decide +kernel
theorem dX12_search_143 : decode cX12_search 143 = .ok (.istore 5, 2) := by decide +kernel
theorem dX12_search_145 : decode cX12_search 145 = .ok (.aload_n 0, 1) := by decide +kernel
theorem dX12_search_146 : decode cX12_search 146 = .ok (.getfield 48, 3) := by decide +kernel
theorem dX12_search_149 : decode cX12_search 149 = .ok (.iload_n 3, 1) := by decide +kernel
theorem dX12_search_150 : decode cX12_search 150 = .ok (.iaload, 1) := by decide +kernel
theorem dX12_search_151 : decode cX12_search 151 = .ok (.aload_n 0, 1) := by decide +kernel
theorem dX12_search_152 : decode cX12_search 152 = .ok (.getfield 102, 3) := by decide +kernel
theorem dX12_search_155 : decode cX12_search 155 = .ok (.iload 4, 2) := by decide +kernel
theorem dX12_search_157 : decode cX12_search 157 = .ok (.invokestatic 225, 3) := by decide +kernel
theorem dX12_search_160 : decode cX12_search 160 = .ok (.istore 6, 2) := by decide +kernel
theorem dX12_search_162 : decode cX12_search 162 = .ok (.aload_n 0, 1) := by decide +kernel
theorem dX12_search_163 : decode cX12_search 163 = .ok (.aload_n 0, 1) := by decide +kernel
theorem dX12_search_164 : decode cX12_search 164 = .ok (.getfield 42, 3) := by decide +kernel
theorem dX12_search_167 : decode cX12_search 167 = .ok (.iload_n 3, 1) := by decide +kernel
theorem dX12_search_168 : decode cX12_search 168 = .ok (.iaload, 1) := by decide +kernel
theorem dX12_search_169 : decode cX12_search 169 = .ok (.aload_n 0, 1) := by decide +kernel
theorem dX12_search_170 : decode cX12_search 170 = .ok (.getfield 13, 3) := by decide +kernel
theorem dX12_search_173 : decode cX12_search 173 = .ok (.iload_n 3, 1) := by decide +kernel
theorem dX12_search_174 : decode cX12_search 174 = .ok (.iaload, 1) := by decide +kernel
theorem dX12_search_175 : decode cX12_search 175 = .ok (.invokevirtual 203, 3) := by decide +kernel
theorem dX12_search_178 : decode cX12_search 178 = .ok (.iload 5, 2) := by decide +kernel
theorem dX12_search_180 : decode cX12_search 180 = .ok (.ifCond .ge 7, 3) := by decide +kernel
theorem dX12_search_183 : decode cX12_search 183 = .ok (.iconst 0, 1) := by decide +kernel
theorem dX12_search_184 : decode cX12_search 184 = .ok (.goto 10, 3) := by decide +kernel
theorem dX12_search_187 : decode cX12_search 187 = .ok (.aload_n 0, 1) := by decide +kernel
theorem dX12_search_188 : decode cX12_search 188 = .ok (.getfield 84, 3) := by decide +kernel
theorem dX12_search_191 : decode cX12_search 191 = .ok (.iload 5, 2) := by decide +kernel
theorem dX12_search_193 : decode cX12_search 193 = .ok (.iaload, 1) := by decide +kernel
theorem dX12_search_194 : decode cX12_search 194 = .ok (.iload 4, 2) := by decide +kernel
theorem dX12_search_196 : decode cX12_search 196 = .ok (.invokestatic 225, 3) := by decide +kernel
theorem dX12_search_199 : decode cX12_search 199 = .ok (.istore 7, 2) := by decide +kernel
theorem dX12_search_201 : decode cX12_search 201 = .ok (.aload_n 0, 1) := by decide +kernel
theorem dX12_search_202 : decode cX12_search 202 = .ok (.getfield 63, 3) := by decide +kernel
theorem dX12_search_205 : decode cX12_search 205 = .ok (.iload_n 2, 1) := by decide +kernel
theorem dX12_search_206 : decode cX12_search 206 = .ok (.iconst 1, 1) := by decide +kernel
theorem dX12_search_207 : decode cX12_search 207 = .ok (.iadd, 1) := by decide +kernel
theorem dX12_search_208 : decode cX12_search 208 = .ok (.iload 4, 2) := by decide +kernel
theorem dX12_search_210 : decode cX12_search 210 = .ok (.iastore, 1) := by decide +kernel
theorem dX12_search_211 : decode cX12_search 211 = .ok (.aload_n 0, 1) := by decide +kernel
theorem dX12_search_212 : decode cX12_search 212 = .ok (.getfield 63, 3) := by decide +kernel
theorem dX12_search_215 : decode cX12_search 215 = .ok (.iload_n 2, 1) := by decide +kernel
theorem dX12_search_216 : decode cX12_search 216 = .ok (.iconst 2, 1) := by decide +kernel
theorem dX12_search_217 : decode cX12_search 217 = .ok (.iadd, 1) := by decide +kernel
theorem dX12_search_218 : decode cX12_search 218 = .ok (.iload 6, 2) := by decide +kernel
theorem dX12_search_220 : decode cX12_search 220 = .ok (.iastore, 1) := by decide +kernel
theorem dX12_search_221 : decode cX12_search 221 = .ok (.aload_n 0, 1) := by decide +kernel
theorem dX12_search_222 : decode cX12_search 222 = .ok (.getfield 63, 3) := by decide +kernel
theorem dX12_search_225 : decode cX12_search 225 = .ok (.iload_n 2, 1) := by decide +kernel
theorem dX12_search_226 : decode cX12_search 226 = .ok (.iconst 3, 1) := by decide +kernel
theorem dX12_search_227 : decode cX12_search 227 = .ok (.iadd, 1) := by decide +kernel
theorem dX12_search_228 : decode cX12_search 228 = .ok (.iload 7, 2) := by decide +kernel
theorem dX12_search_230 : decode cX12_search 230 = .ok (.iastore, 1) := by decide +kernel
theorem dX12_search_231 : decode cX12_search 231 = .ok (.iload 6, 2) := by decide +kernel
theorem dX12_search_233 : decode cX12_search 233 = .ok (.iload 7, 2) := by decide +kernel
theorem dX12_search_235 : decode cX12_search 235 = .ok (.if_icmp .ge 106, 3) := by decide +kernel
theorem dX12_search_238 : decode cX12_search 238 = .ok (.aload_n 0, 1) := by decide +kernel
theorem dX12_search_239 : decode cX12_search 239 = .ok (.getfield 66, 3) := by decide +kernel
theorem dX12_search_242 : decode cX12_search 242 = .ok (.iload_n 1, 1) := by decide +kernel
theorem dX12_search_243 : decode cX12_search 243 = .ok (.dup2, 1) := by decide +kernel
theorem dX12_search_244 : decode cX12_search 244 = .ok (.iaload, 1) := by decide +kernel
theorem dX12_search_245 : decode cX12_search 245 = .ok (.iconst 1, 1) := by decide +kernel
theorem dX12_search_246 : decode cX12_search 246 = .ok (.iadd, 1) := by decide +kernel
theorem dX12_search_247 : decode cX12_search 247 = .ok (.iastore, 1) := by decide +kernel
theorem dX12_search_248 : decode cX12_search 248 = .ok (.aload_n 0, 1) := by decide +kernel
theorem dX12_search_249 : decode cX12_search 249 = .ok (.getfield 66, 3) := by decide +kernel
theorem dX12_search_252 : decode cX12_search 252 = .ok (.iload_n 1, 1) := by decide +kernel
theorem dX12_search_253 : decode cX12_search 253 = .ok (.iaload, 1) := by decide +kernel
theorem dX12_search_254 : decode cX12_search 254 = .ok (.iconst 4, 1) := by decide +kernel
theorem dX12_search_255 : decode cX12_search 255 = .ok (.if_icmp .le 7, 3) := by decide +kernel
theorem dX12_search_258 : decode cX12_search 258 = .ok (.iconst 4, 1) := by decide +kernel
theorem dX12_search_259 : decode cX12_search 259 = .ok (.goto 9, 3) := by decide +kernel
theorem dX12_search_262 : decode cX12_search 262 = .ok (.aload_n 0, 1) := by decide +kernel
theorem dX12_search_263 : decode cX12_search 263 = .ok (.getfield 66, 3) := by decide +kernel
theorem dX12_search_266 : decode cX12_search 266 = .ok (.iload_n 1, 1) := by decide +kernel
theorem dX12_search_267 : decode cX12_search 267 = .ok (.iaload, 1) := by decide +kernel
theorem dX12_search_268 : decode cX12_search 268 = .ok (.istore 8, 2) := by decide +kernel
theorem dX12_search_270 : decode cX12_search 270 = .ok (.aload_n 0, 1) := by decide +kernel
theorem dX12_search_271 : decode cX12_search 271 = .ok (.getfield 63, 3) := by decide +kernel
theorem dX12_search_274 : decode cX12_search 274 = .ok (.iload_n 2, 1) := by decide +kernel
theorem dX12_search_275 : decode cX12_search 275 = .ok (.iconst 4, 1) := by decide +kernel
theorem dX12_search_276 : decode cX12_search 276 = .ok (.iadd, 1) := by decide +kernel
theorem dX12_search_277 : decode cX12_search 277 = .ok (.iconst 1, 1) := by decide +kernel
theorem dX12_search_278 : decode cX12_search 278 = .ok (.iastore, 1) := by decide +kernel
theorem dX12_search_279 : decode cX12_search 279 = .ok (.aload_n 0, 1) := by decide +kernel
theorem dX12_search_280 : decode cX12_search 280 = .ok (.getfield 63, 3) := by decide +kernel
theorem dX12_search_283 : decode cX12_search 283 = .ok (.iload_n 2, 1) := by decide +kernel
theorem dX12_search_284 : decode cX12_search 284 = .ok (.iconst 5, 1) := by decide +kernel
theorem dX12_search_285 : decode cX12_search 285 = .ok (.iadd, 1) := by decide +kernel
theorem dX12_search_286 : decode cX12_search 286 = .ok (.aload_n 0, 1) := by decide +kernel
theorem dX12_search_287 : decode cX12_search 287 = .ok (.getfield 105, 3) := by decide +kernel
theorem dX12_search_290 : decode cX12_search 290 = .ok (.iload 8, 2) := by decide +kernel
theorem dX12_search_292 : decode cX12_search 292 = .ok (.imul, 1) := by decide +kernel
theorem dX12_search_293 : decode cX12_search 293 = .ok (.iastore, 1) := by decide +kernel
theorem dX12_search_294 : decode cX12_search 294 = .ok (.aload_n 0, 1) := by decide +kernel
theorem dX12_search_295 : decode cX12_search 295 = .ok (.getfield 69, 3) := by decide +kernel
theorem dX12_search_298 : decode cX12_search 298 = .ok (.iload_n 1, 1) := by decide +kernel
theorem dX12_search_299 : decode cX12_search 299 = .ok (.dup2, 1) := by decide +kernel
theorem dX12_search_300 : decode cX12_search 300 = .ok (.iaload, 1) := by decide +kernel
theorem dX12_search_301 : decode cX12_search 301 = .ok (.aload_n 0, 1) := by decide +kernel
theorem dX12_search_302 : decode cX12_search 302 = .ok (.getfield 105, 3) := by decide +kernel
theorem dX12_search_305 : decode cX12_search 305 = .ok (.iload 8, 2) := by decide +kernel
theorem dX12_search_307 : decode cX12_search 307 = .ok (.imul, 1) := by decide +kernel
theorem dX12_search_308 : decode cX12_search 308 = .ok (.iadd, 1) := by decide +kernel
theorem dX12_search_309 : decode cX12_search 309 = .ok (.iastore, 1) := by decide +kernel
theorem dX12_search_310 : decode cX12_search 310 = .ok (.aload_n 0, 1) := by decide +kernel
theorem dX12_search_311 : decode cX12_search 311 = .ok (.getfield 72, 3) := by decide +kernel
theorem dX12_search_314 : decode cX12_search 314 = .ok (.iload_n 1, 1) := by decide +kernel
theorem dX12_search_315 : decode cX12_search 315 = .ok (.aload_n 0, 1) := by decide +kernel
theorem dX12_search_316 : decode cX12_search 316 = .ok (.getfield 66, 3) := by decide +kernel
theorem dX12_search_319 : decode cX12_search 319 = .ok (.iload_n 1, 1) := by decide +kernel
theorem dX12_search_320 : decode cX12_search 320 = .ok (.iaload, 1) := by decide +kernel
theorem dX12_search_321 : decode cX12_search 321 = .ok (.iconst 4, 1) := by decide +kernel
theorem dX12_search_322 : decode cX12_search 322 = .ok (.if_icmp .lt 12, 3) := by decide +kernel
theorem dX12_search_325 : decode cX12_search 325 = .ok (.aload_n 0, 1) := by decide +kernel
theorem dX12_search_326 : decode cX12_search 326 = .ok (.getfield 130, 3) := by decide +kernel
theorem dX12_search_329 : decode cX12_search 329 = .ok (.iconst 2, 1) := by decide +kernel
theorem dX12_search_330 : decode cX12_search 330 = .ok (.iadd, 1) := by decide +kernel
theorem dX12_search_331 : decode cX12_search 331 = .ok (.goto 9, 3) := by decide +kernel
theorem dX12_search_334 : decode cX12_search 334 = .ok (.aload_n 0, 1) := by decide +kernel
theorem dX12_search_335 : decode cX12_search 335 = .ok (.getfield 72, 3) := by decide +kernel
theorem dX12_search_338 : decode cX12_search 338 = .ok (.iload_n 1, 1) := by decide +kernel
theorem dX12_search_339 : decode cX12_search 339 = .ok (.iaload, 1) := by decide +kernel
theorem dX12_search_340 : decode cX12_search 340 = .ok (.iastore, 1) := by decide +kernel
theorem dX12_search_341 : decode cX12_search 341 = .ok (.aload_n 0, 1) := by decide +kernel
theorem dX12_search_342 : decode cX12_search 342 = .ok (.iconst 3, 1) := by decide +kernel
theorem dX12_search_343 : decode cX12_search 343 = .ok (.iload_n 1, 1) := by decide +kernel
theorem dX12_search_344 : decode cX12_search 344 = .ok (.invokevirtual 167, 3) := by decide +kernel
theorem dX12_search_347 : decode cX12_search 347 = .ok (.ireturn, 1) := by decide +kernel
set_option maxRecDepth 20000 in
theorem ggX12_turn_X12_drawTurns : GoodIn wsX12_turn wsX12_drawTurns := goodIn_r _ [9, 4, 1, 2, 10, 11, 12, 13, 3, 14, 15, 16, 17, 18, 19, 20, 21, 22, 23, 24, 25, 26, 27, 28, 29, 30, 31, 32, 33, 34, 35, 36, 37, 38, 39, 40, 41, 42, 43, 44, 45, 46, 47, 48, 49, 50, 51, 52, 53, 54, 55, 56, 57, 58, 59, 60, 61, 62, 63] (by decide +kernel) (by decide +kernel)
set_option maxRecDepth 20000 in
theorem gX12_turn_X12_drawTurns : GoodIn wsX12_turn (wsV RX12 222 RX12 yX12_drawTurns wsX12_drawTurns) := goodIn_app (goodIn_of _ (by decide +kernel)) ggX12_turn_X12_drawTurns
theorem dX12_turn_0 : decode cX12_turn 0 = .ok (.aload_n 0, 1) := by decide +kernel
theorem dX12_turn_1 : decode cX12_turn 1 = .ok (.getfield 120, 3) := by decide +kernel
theorem dX12_turn_4 : decode cX12_turn 4 = .ok (.ifCond .ne 6, 3) := by decide +kernel
theorem dX12_turn_7 : decode cX12_turn 7 = .ok (.bipush (-3), 2) := by decide +kernel
theorem dX12_turn_9 : decode cX12_turn 9 = .ok (.ireturn, 1) := by decide +kernel
theorem dX12_turn_10 : decode cX12_turn 10 = .ok (.aload_n 0, 1) := by decide +kernel
theorem dX12_turn_11 : decode cX12_turn 11 = .ok (.invokevirtual 222, 3) := by decide +kernel
theorem dX12_turn_14 : decode cX12_turn 14 = .ok (.aload_n 0, 1) := by decide +kernel
theorem dX12_turn_15 : decode cX12_turn 15 = .ok (.getfield 96, 3) := by decide +kernel
theorem dX12_turn_18 : decode cX12_turn 18 = .ok (.aload_n 0, 1) := by decide +kernel
theorem dX12_turn_19 : decode cX12_turn 19 = .ok (.getfield 219, 3) := by decide +kernel
theorem dX12_turn_22 : decode cX12_turn 22 = .ok (.aload_n 0, 1) := by decide +kernel
theorem dX12_turn_23 : decode cX12_turn 23 = .ok (.getfield 156, 3) := by decide +kernel
theorem dX12_turn_26 : decode cX12_turn 26 = .ok (.isub, 1) := by decide +kernel
theorem dX12_turn_27 : decode cX12_turn 27 = .ok (.iaload, 1) := by decide +kernel
theorem dX12_turn_28 : decode cX12_turn 28 = .ok (.ireturn, 1) := by decide +kernel
set_option maxRecDepth 20000 in
theorem ggX12_rules_X12_in : GoodIn wsX12_rules wsX12_in := goodIn_r _ [8] (by decide +kernel) (by decide +kernel)
set_option maxRecDepth 20000 in
theorem gX12_rules_X12_in : GoodIn wsX12_rules (va_wsS RX12 123 yX12_in wsX12_in) := goodIn_app (goodIn_of _ (by decide +kernel)) ggX12_rules_X12_in
theorem dX12_rules_0 : decode cX12_rules 0 = .ok (.iload_n 1, 1) := by decide +kernel
theorem dX12_rules_1 : decode cX12_rules 1 = .ok (.i2l, 1) := by decide +kernel
theorem dX12_rules_2 : decode cX12_rules 2 = .ok (.lconst 0, 1) := by decide +kernel
theorem dX12_rules_3 : decode cX12_rules 3 = .ok (.ldc2_w 195, 3) := by decide +kernel
theorem dX12_rules_6 : decode cX12_rules 6 = .ok (.invokestatic 123, 3) := by decide +kernel
theorem dX12_rules_9 : decode cX12_rules 9 = .ok (.ifCond .eq 15, 3) := by decide +kernel
theorem dX12_rules_12 : decode cX12_rules 12 = .ok (.iload_n 2, 1) := by decide +kernel
theorem dX12_rules_13 : decode cX12_rules 13 = .ok (.i2l, 1) := by decide +kernel
theorem dX12_rules_14 : decode cX12_rules 14 = .ok (.lconst 0, 1) := by decide +kernel
theorem dX12_rules_15 : decode cX12_rules 15 = .ok (.ldc2_w 165, 3) := by decide +kernel
theorem dX12_rules_18 : decode cX12_rules 18 = .ok (.invokestatic 123, 3) := by decide +kernel
theorem dX12_rules_21 : decode cX12_rules 21 = .ok (.ifCond .ne 6, 3) := by decide +kernel
theorem dX12_rules_24 : decode cX12_rules 24 = .ok (.bipush (-2), 2) := by decide +kernel
theorem dX12_rules_26 : decode cX12_rules 26 = .ok (.ireturn, 1) := by decide +kernel
theorem dX12_rules_27 : decode cX12_rules 27 = .ok (.aload_n 0, 1) := by decide +kernel
theorem dX12_rules_28 : decode cX12_rules 28 = .ok (.iload_n 1, 1) := by decide +kernel
theorem dX12_rules_29 : decode cX12_rules 29 = .ok (.putfield 102, 3) := by decide +kernel
theorem dX12_rules_32 : decode cX12_rules 32 = .ok (.aload_n 0, 1) := by decide +kernel
theorem dX12_rules_33 : decode cX12_rules 33 = .ok (.iload_n 2, 1) := by decide +kernel
theorem dX12_rules_34 : decode cX12_rules 34 = .ok (.putfield 105, 3) := by decide +kernel
theorem dX12_rules_37 : decode cX12_rules 37 = .ok (.iconst 1, 1) := by decide +kernel
theorem dX12_rules_38 : decode cX12_rules 38 = .ok (.ireturn, 1) := by decide +kernel
set_option maxRecDepth 20000 in
theorem ggX12_record_X12_isRecord : GoodIn wsX12_record wsX12_isRecord := goodIn_r _ [9, 10, 11, 12, 8, 13, 14, 15, 16, 17, 18, 19, 20, 21, 22, 23, 24, 25, 26, 27, 28, 29, 30, 31, 32, 33, 34, 35, 36, 37, 38, 39, 40, 41, 42, 43, 44, 45, 46, 47, 48, 49, 50, 51, 52, 53, 54, 55, 56, 57, 58, 59, 60, 61, 62, 63] (by decide +kernel) (by decide +kernel)
set_option maxRecDepth 20000 in
theorem gX12_record_X12_isRecord : GoodIn wsX12_record (wsV RX12 171 RX12 yX12_isRecord wsX12_isRecord) := goodIn_app (goodIn_of _ (by decide +kernel)) ggX12_record_X12_isRecord
theorem dX12_record_0 : decode cX12_record 0 = .ok (.aload_n 0, 1) := by decide +kernel
theorem dX12_record_1 : decode cX12_record 1 = .ok (.iload_n 1, 1) := by decide +kernel
theorem dX12_record_2 : decode cX12_record 2 = .ok (.invokevirtual 171, 3) := by decide +kernel
theorem dX12_record_5 : decode cX12_record 5 = .ok (.ifCond .ne 5, 3) := by decide +kernel
theorem dX12_record_8 : decode cX12_record 8 = .ok (.iconst (-1), 1) := by decide +kernel
theorem dX12_record_9 : decode cX12_record 9 = .ok (.ireturn, 1) := by decide +kernel
theorem dX12_record_10 : decode cX12_record 10 = .ok (.iload_n 2, 1) := by decide +kernel
theorem dX12_record_11 : decode cX12_record 11 = .ok (.ifCond .ne 12, 3) := by decide +kernel
theorem dX12_record_14 : decode cX12_record 14 = .ok (.aload_n 0, 1) := by decide +kernel
theorem dX12_record_15 : decode cX12_record 15 = .ok (.getfield 7, 3) := by decide +kernel
theorem dX12_record_18 : decode cX12_record 18 = .ok (.iload_n 1, 1) := by decide +kernel
theorem dX12_record_19 : decode cX12_record 19 = .ok (.iaload, 1) := by decide +kernel
theorem dX12_record_20 : decode cX12_record 20 = .ok (.goto 47, 3) := by decide +kernel
theorem dX12_record_23 : decode cX12_record 23 = .ok (.iload_n 2, 1) := by decide +kernel
theorem dX12_record_24 : decode cX12_record 24 = .ok (.iconst 1, 1) := by decide +kernel
theorem dX12_record_25 : decode cX12_record 25 = .ok (.if_icmp .ne 12, 3) := by decide +kernel
theorem dX12_record_28 : decode cX12_record 28 = .ok (.aload_n 0, 1) := by decide +kernel
theorem dX12_record_29 : decode cX12_record 29 = .ok (.getfield 13, 3) := by decide +kernel
theorem dX12_record_32 : decode cX12_record 32 = .ok (.iload_n 1, 1) := by decide +kernel
theorem dX12_record_33 : decode cX12_record 33 = .ok (.iaload, 1) := by decide +kernel
theorem dX12_record_34 : decode cX12_record 34 = .ok (.goto 33, 3) := by decide +kernel
theorem dX12_record_37 : decode cX12_record 37 = .ok (.iload_n 2, 1) := by decide +kernel
theorem dX12_record_38 : decode cX12_record 38 = .ok (.iconst 2, 1) := by decide +kernel
theorem dX12_record_39 : decode cX12_record 39 = .ok (.if_icmp .ne 12, 3) := by decide +kernel
theorem dX12_record_42 : decode cX12_record 42 = .ok (.aload_n 0, 1) := by decide +kernel
theorem dX12_record_43 : decode cX12_record 43 = .ok (.getfield 16, 3) := by decide +kernel
theorem dX12_record_46 : decode cX12_record 46 = .ok (.iload_n 1, 1) := by decide +kernel
theorem dX12_record_47 : decode cX12_record 47 = .ok (.iaload, 1) := by decide +kernel
theorem dX12_record_48 : decode cX12_record 48 = .ok (.goto 19, 3) := by decide +kernel
theorem dX12_record_51 : decode cX12_record 51 = .ok (.iload_n 2, 1) := by decide +kernel
theorem dX12_record_52 : decode cX12_record 52 = .ok (.iconst 3, 1) := by decide +kernel
theorem dX12_record_53 : decode cX12_record 53 = .ok (.if_icmp .ne 12, 3) := by decide +kernel
theorem dX12_record_56 : decode cX12_record 56 = .ok (.aload_n 0, 1) := by decide +kernel
theorem dX12_record_57 : decode cX12_record 57 = .ok (.getfield 19, 3) := by decide +kernel
theorem dX12_record_60 : decode cX12_record 60 = .ok (.iload_n 1, 1) := by decide +kernel
theorem dX12_record_61 : decode cX12_record 61 = .ok (.iaload, 1) := by decide +kernel
theorem dX12_record_62 : decode cX12_record 62 = .ok (.goto 5, 3) := by decide +kernel
theorem dX12_record_65 : decode cX12_record 65 = .ok (.bipush (-2), 2) := by decide +kernel
theorem dX12_record_67 : decode cX12_record 67 = .ok (.ireturn, 1) := by decide +kernel
set_option maxRecDepth 20000 in
theorem ggX12_lot_X12_isRecord : GoodIn wsX12_lot wsX12_isRecord := goodIn_r _ [11, 12, 13, 14, 10, 15, 16, 17, 18, 19, 20, 21, 22, 23, 24, 25, 26, 27, 28, 29, 30, 31, 32, 33, 34, 35, 36, 37, 38, 39, 40, 41, 42, 43, 44, 45, 46, 47, 48, 49, 50, 51, 52, 53, 54, 55, 56, 57, 58, 59, 60, 61, 62, 63, 64, 65] (by decide +kernel) (by decide +kernel)
set_option maxRecDepth 20000 in
theorem gX12_lot_X12_isRecord : GoodIn wsX12_lot (wsV RX12 171 RX12 yX12_isRecord wsX12_isRecord) := goodIn_app (goodIn_of _ (by decide +kernel)) ggX12_lot_X12_isRecord
set_option maxRecDepth 20000 in
theorem ggX12_lot_X12_in : GoodIn wsX12_lot wsX12_in := goodIn_r _ [15] (by decide +kernel) (by decide +kernel)
set_option maxRecDepth 20000 in
theorem gX12_lot_X12_in : GoodIn wsX12_lot (va_wsS RX12 123 yX12_in wsX12_in) := goodIn_app (goodIn_of _ (by decide +kernel)) ggX12_lot_X12_in
theorem dX12_lot_0 : decode cX12_lot 0 = .ok (.aload_n 0, 1) := by decide +kernel
theorem dX12_lot_1 : decode cX12_lot 1 = .ok (.iload_n 1, 1) := by decide +kernel
theorem dX12_lot_2 : decode cX12_lot 2 = .ok (.invokevirtual 171, 3) := by decide +kernel
theorem dX12_lot_5 : decode cX12_lot 5 = .ok (.ifCond .ne 5, 3) := by decide +kernel
theorem dX12_lot_8 : decode cX12_lot 8 = .ok (.iconst (-1), 1) := by decide +kernel
theorem dX12_lot_9 : decode cX12_lot 9 = .ok (.ireturn, 1) := by decide +kernel
theorem dX12_lot_10 : decode cX12_lot 10 = .ok (.iload_n 2, 1) := by decide +kernel
theorem dX12_lot_11 : decode cX12_lot 11 = .ok (.i2l, 1) := by decide +kernel
theorem dX12_lot_12 : decode cX12_lot 12 = .ok (.lconst 0, 1) := by decide +kernel
theorem dX12_lot_13 : decode cX12_lot 13 = .ok (.ldc2_w 229, 3) := by decide +kernel
theorem dX12_lot_16 : decode cX12_lot 16 = .ok (.invokestatic 123, 3) := by decide +kernel
theorem dX12_lot_19 : decode cX12_lot 19 = .ok (.ifCond .ne 6, 3) := by decide +kernel
theorem dX12_lot_22 : decode cX12_lot 22 = .ok (.bipush (-2), 2) := by decide +kernel
theorem dX12_lot_24 : decode cX12_lot 24 = .ok (.ireturn, 1) := by decide +kernel
theorem dX12_lot_25 : decode cX12_lot 25 = .ok (.aload_n 0, 1) := by decide +kernel
theorem dX12_lot_26 : decode cX12_lot 26 = .ok (.getfield 7, 3) := by decide +kernel
theorem dX12_lot_29 : decode cX12_lot 29 = .ok (.iload_n 1, 1) := by decide +kernel
theorem dX12_lot_30 : decode cX12_lot 30 = .ok (.iaload, 1) := by decide +kernel
theorem dX12_lot_31 : decode cX12_lot 31 = .ok (.iconst 1, 1) := by decide +kernel
theorem dX12_lot_32 : decode cX12_lot 32 = .ok (.if_icmp .eq 6, 3) := by decide +kernel
theorem dX12_lot_35 : decode cX12_lot 35 = .ok (.bipush (-5), 2) := by decide +kernel
theorem dX12_lot_37 : decode cX12_lot 37 = .ok (.ireturn, 1) := by decide +kernel
theorem dX12_lot_38 : decode cX12_lot 38 = .ok (.iload_n 2, 1) := by decide +kernel
theorem dX12_lot_39 : decode cX12_lot 39 = .ok (.ifCond .ne 12, 3) := by decide +kernel
theorem dX12_lot_42 : decode cX12_lot 42 = .ok (.aload_n 0, 1) := by decide +kernel
theorem dX12_lot_43 : decode cX12_lot 43 = .ok (.getfield 22, 3) := by decide +kernel
theorem dX12_lot_46 : decode cX12_lot 46 = .ok (.iload_n 1, 1) := by decide +kernel
theorem dX12_lot_47 : decode cX12_lot 47 = .ok (.iaload, 1) := by decide +kernel
theorem dX12_lot_48 : decode cX12_lot 48 = .ok (.goto 45, 3) := by decide +kernel
theorem dX12_lot_51 : decode cX12_lot 51 = .ok (.iload_n 2, 1) := by decide +kernel
theorem dX12_lot_52 : decode cX12_lot 52 = .ok (.iconst 1, 1) := by decide +kernel
theorem dX12_lot_53 : decode cX12_lot 53 = .ok (.if_icmp .ne 12, 3) := by decide +kernel
theorem dX12_lot_56 : decode cX12_lot 56 = .ok (.aload_n 0, 1) := by decide +kernel
theorem dX12_lot_57 : decode cX12_lot 57 = .ok (.getfield 25, 3) := by decide +kernel
theorem dX12_lot_60 : decode cX12_lot 60 = .ok (.iload_n 1, 1) := by decide +kernel
theorem dX12_lot_61 : decode cX12_lot 61 = .ok (.iaload, 1) := by decide +kernel
theorem dX12_lot_62 : decode cX12_lot 62 = .ok (.goto 31, 3) := by decide +kernel
theorem dX12_lot_65 : decode cX12_lot 65 = .ok (.iload_n 2, 1) := by decide +kernel
theorem dX12_lot_66 : decode cX12_lot 66 = .ok (.iconst 2, 1) := by decide +kernel
theorem dX12_lot_67 : decode cX12_lot 67 = .ok (.if_icmp .ne 20, 3) := by decide +kernel
theorem dX12_lot_70 : decode cX12_lot 70 = .ok (.aload_n 0, 1) := by decide +kernel
theorem dX12_lot_71 : decode cX12_lot 71 = .ok (.getfield 28, 3) := by decide +kernel
theorem dX12_lot_74 : decode cX12_lot 74 = .ok (.iload_n 1, 1) := by decide +kernel
theorem dX12_lot_75 : decode cX12_lot 75 = .ok (.baload, 1) := by decide +kernel
theorem dX12_lot_76 : decode cX12_lot 76 = .ok (.ifCond .eq 7, 3) := by decide +kernel
theorem dX12_lot_79 : decode cX12_lot 79 = .ok (.iconst 1, 1) := by decide +kernel
theorem dX12_lot_80 : decode cX12_lot 80 = .ok (.goto 13, 3) := by decide +kernel
theorem dX12_lot_83 : decode cX12_lot 83 = .ok (.iconst 0, 1) := by decide +kernel
theorem dX12_lot_84 : decode cX12_lot 84 = .ok (.goto 9, 3) := by decide +kernel
theorem dX12_lot_87 : decode cX12_lot 87 = .ok (.aload_n 0, 1) := by decide +kernel
theorem dX12_lot_88 : decode cX12_lot 88 = .ok (.getfield 32, 3) := by decide +kernel
theorem dX12_lot_91 : decode cX12_lot 91 = .ok (.iload_n 1, 1) := by decide +kernel
theorem dX12_lot_92 : decode cX12_lot 92 = .ok (.iaload, 1) := by decide +kernel
theorem dX12_lot_93 : decode cX12_lot 93 = .ok (.ireturn, 1) := by decide +kernel
set_option maxRecDepth 20000 in
theorem ggX12_batch_X12_isRecord : GoodIn wsX12_batch wsX12_isRecord := goodIn_r _ [15, 16, 17, 18, 14, 19, 20, 21, 22, 23, 24, 25, 26, 27, 28, 29, 30, 31, 32, 33, 34, 35, 36, 37, 38, 39, 40, 41, 42, 43, 44, 45, 46, 47, 48, 49, 50, 51, 52, 53, 54, 55, 56, 57, 58, 59, 60, 61, 62, 63, 64, 65, 66, 67, 68, 69] (by decide +kernel) (by decide +kernel)
set_option maxRecDepth 20000 in
theorem gX12_batch_X12_isRecord : GoodIn wsX12_batch (wsV RX12 171 RX12 yX12_isRecord wsX12_isRecord) := goodIn_app (goodIn_of _ (by decide +kernel)) ggX12_batch_X12_isRecord
set_option maxRecDepth 20000 in
theorem ggX12_batch_X12_in : GoodIn wsX12_batch wsX12_in := goodIn_r _ [19] (by decide +kernel) (by decide +kernel)
set_option maxRecDepth 20000 in
theorem gX12_batch_X12_in : GoodIn wsX12_batch (va_wsS RX12 123 yX12_in wsX12_in) := goodIn_app (goodIn_of _ (by decide +kernel)) ggX12_batch_X12_in
theorem dX12_batch_0 : decode cX12_batch 0 = .ok (.aload_n 0, 1) := by decide +kernel
theorem dX12_batch_1 : decode cX12_batch 1 = .ok (.iload_n 1, 1) := by decide +kernel
theorem dX12_batch_2 : decode cX12_batch 2 = .ok (.invokevirtual 171, 3) := by decide +kernel
theorem dX12_batch_5 : decode cX12_batch 5 = .ok (.ifCond .ne 5, 3) := by decide +kernel
theorem dX12_batch_8 : decode cX12_batch 8 = .ok (.iconst (-1), 1) := by decide +kernel
theorem dX12_batch_9 : decode cX12_batch 9 = .ok (.ireturn, 1) := by decide +kernel
theorem dX12_batch_10 : decode cX12_batch 10 = .ok (.iload_n 2, 1) := by decide +kernel
theorem dX12_batch_11 : decode cX12_batch 11 = .ok (.ifCond .lt 17, 3) := by decide +kernel
theorem dX12_batch_14 : decode cX12_batch 14 = .ok (.iload_n 2, 1) := by decide +kernel
theorem dX12_batch_15 : decode cX12_batch 15 = .ok (.i2l, 1) := by decide +kernel
theorem dX12_batch_16 : decode cX12_batch 16 = .ok (.ldc2_w 231, 3) := by decide +kernel
theorem dX12_batch_19 : decode cX12_batch 19 = .ok (.ldc2_w 233, 3) := by decide +kernel
theorem dX12_batch_22 : decode cX12_batch 22 = .ok (.invokestatic 123, 3) := by decide +kernel
theorem dX12_batch_25 : decode cX12_batch 25 = .ok (.ifCond .eq 6, 3) := by decide +kernel
theorem dX12_batch_28 : decode cX12_batch 28 = .ok (.bipush (-2), 2) := by decide +kernel
theorem dX12_batch_30 : decode cX12_batch 30 = .ok (.ireturn, 1) := by decide +kernel
theorem dX12_batch_31 : decode cX12_batch 31 = .ok (.aload_n 0, 1) := by decide +kernel
theorem dX12_batch_32 : decode cX12_batch 32 = .ok (.getfield 7, 3) := by decide +kernel
theorem dX12_batch_35 : decode cX12_batch 35 = .ok (.iload_n 1, 1) := by decide +kernel
theorem dX12_batch_36 : decode cX12_batch 36 = .ok (.iaload, 1) := by decide +kernel
theorem dX12_batch_37 : decode cX12_batch 37 = .ok (.iconst 2, 1) := by decide +kernel
theorem dX12_batch_38 : decode cX12_batch 38 = .ok (.if_icmp .eq 6, 3) := by decide +kernel
theorem dX12_batch_41 : decode cX12_batch 41 = .ok (.bipush (-5), 2) := by decide +kernel
theorem dX12_batch_43 : decode cX12_batch 43 = .ok (.ireturn, 1) := by decide +kernel
theorem dX12_batch_44 : decode cX12_batch 44 = .ok (.iload_n 2, 1) := by decide +kernel
theorem dX12_batch_45 : decode cX12_batch 45 = .ok (.iconst 4, 1) := by decide +kernel
theorem dX12_batch_46 : decode cX12_batch 46 = .ok (.if_icmp .ge 51, 3) := by decide +kernel
theorem dX12_batch_49 : decode cX12_batch 49 = .ok (.iload_n 2, 1) := by decide +kernel
theorem dX12_batch_50 : decode cX12_batch 50 = .ok (.ifCond .ne 12, 3) := by decide +kernel
theorem dX12_batch_53 : decode cX12_batch 53 = .ok (.aload_n 0, 1) := by decide +kernel
theorem dX12_batch_54 : decode cX12_batch 54 = .ok (.getfield 42, 3) := by decide +kernel
theorem dX12_batch_57 : decode cX12_batch 57 = .ok (.iload_n 1, 1) := by decide +kernel
theorem dX12_batch_58 : decode cX12_batch 58 = .ok (.iaload, 1) := by decide +kernel
theorem dX12_batch_59 : decode cX12_batch 59 = .ok (.goto 37, 3) := by decide +kernel
theorem dX12_batch_62 : decode cX12_batch 62 = .ok (.iload_n 2, 1) := by decide +kernel
theorem dX12_batch_63 : decode cX12_batch 63 = .ok (.iconst 1, 1) := by decide +kernel
theorem dX12_batch_64 : decode cX12_batch 64 = .ok (.if_icmp .ne 12, 3) := by decide +kernel
theorem dX12_batch_67 : decode cX12_batch 67 = .ok (.aload_n 0, 1) := by decide +kernel
theorem dX12_batch_68 : decode cX12_batch 68 = .ok (.getfield 45, 3) := by decide +kernel
theorem dX12_batch_71 : decode cX12_batch 71 = .ok (.iload_n 1, 1) := by decide +kernel
theorem dX12_batch_72 : decode cX12_batch 72 = .ok (.iaload, 1) := by decide +kernel
theorem dX12_batch_73 : decode cX12_batch 73 = .ok (.goto 23, 3) := by decide +kernel
theorem dX12_batch_76 : decode cX12_batch 76 = .ok (.iload_n 2, 1) := by decide +kernel
theorem dX12_batch_77 : decode cX12_batch 77 = .ok (.iconst 2, 1) := by decide +kernel
theorem dX12_batch_78 : decode cX12_batch 78 = .ok (.if_icmp .ne 12, 3) := by decide +kernel
theorem dX12_batch_81 : decode cX12_batch 81 = .ok (.aload_n 0, 1) := by decide +kernel
theorem dX12_batch_82 : decode cX12_batch 82 = .ok (.getfield 48, 3) := by decide +kernel
theorem dX12_batch_85 : decode cX12_batch 85 = .ok (.iload_n 1, 1) := by decide +kernel
theorem dX12_batch_86 : decode cX12_batch 86 = .ok (.iaload, 1) := by decide +kernel
theorem dX12_batch_87 : decode cX12_batch 87 = .ok (.goto 9, 3) := by decide +kernel
theorem dX12_batch_90 : decode cX12_batch 90 = .ok (.aload_n 0, 1) := by decide +kernel
theorem dX12_batch_91 : decode cX12_batch 91 = .ok (.getfield 54, 3) := by decide +kernel
theorem dX12_batch_94 : decode cX12_batch 94 = .ok (.iload_n 1, 1) := by decide +kernel
theorem dX12_batch_95 : decode cX12_batch 95 = .ok (.iaload, 1) := by decide +kernel
theorem dX12_batch_96 : decode cX12_batch 96 = .ok (.ireturn, 1) := by decide +kernel
theorem dX12_batch_97 : decode cX12_batch 97 = .ok (.iload_n 2, 1) := by decide +kernel
theorem dX12_batch_98 : decode cX12_batch 98 = .ok (.bipush 10, 2) := by decide +kernel
theorem dX12_batch_100 : decode cX12_batch 100 = .ok (.isub, 1) := by decide +kernel
theorem dX12_batch_101 : decode cX12_batch 101 = .ok (.iconst 2, 1) := by decide +kernel
theorem dX12_batch_102 : decode cX12_batch 102 = .ok (.idiv, 1) := by decide +kernel
theorem dX12_batch_103 : decode cX12_batch 103 = .ok (.istore_n 3, 1) := by decide +kernel
theorem dX12_batch_104 : decode cX12_batch 104 = .ok (.iload_n 3, 1) := by decide +kernel
theorem dX12_batch_105 : decode cX12_batch 105 = .ok (.aload_n 0, 1) := by decide +kernel
theorem dX12_batch_106 : decode cX12_batch 106 = .ok (.getfield 54, 3) := by decide +kernel
theorem dX12_batch_109 : decode cX12_batch 109 = .ok (.iload_n 1, 1) := by decide +kernel
theorem dX12_batch_110 : decode cX12_batch 110 = .ok (.iaload, 1) := by decide +kernel
theorem dX12_batch_111 : decode cX12_batch 111 = .ok (.if_icmp .lt 6, 3) := by decide +kernel
theorem dX12_batch_114 : decode cX12_batch 114 = .ok (.bipush (-6), 2) := by decide +kernel
theorem dX12_batch_116 : decode cX12_batch 116 = .ok (.ireturn, 1) := by decide +kernel
theorem dX12_batch_117 : decode cX12_batch 117 = .ok (.iload_n 2, 1) := by decide +kernel
theorem dX12_batch_118 : decode cX12_batch 118 = .ok (.iconst 2, 1) := by decide +kernel
theorem dX12_batch_119 : decode cX12_batch 119 = .ok (.irem, 1) := by decide +kernel
theorem dX12_batch_120 : decode cX12_batch 120 = .ok (.ifCond .ne 19, 3) := by decide +kernel
theorem dX12_batch_123 : decode cX12_batch 123 = .ok (.aload_n 0, 1) := by decide +kernel
theorem dX12_batch_124 : decode cX12_batch 124 = .ok (.getfield 57, 3) := by decide +kernel
theorem dX12_batch_127 : decode cX12_batch 127 = .ok (.aload_n 0, 1) := by decide +kernel
theorem dX12_batch_128 : decode cX12_batch 128 = .ok (.getfield 51, 3) := by decide +kernel
theorem dX12_batch_131 : decode cX12_batch 131 = .ok (.iload_n 1, 1) := by decide +kernel
theorem dX12_batch_132 : decode cX12_batch 132 = .ok (.iaload, 1) := by decide +kernel
theorem dX12_batch_133 : decode cX12_batch 133 = .ok (.iload_n 3, 1) := by decide +kernel
theorem dX12_batch_134 : decode cX12_batch 134 = .ok (.iadd, 1) := by decide +kernel
theorem dX12_batch_135 : decode cX12_batch 135 = .ok (.iaload, 1) := by decide +kernel
theorem dX12_batch_136 : decode cX12_batch 136 = .ok (.goto 16, 3) := by decide +kernel
theorem dX12_batch_139 : decode cX12_batch 139 = .ok (.aload_n 0, 1) := by decide +kernel
theorem dX12_batch_140 : decode cX12_batch 140 = .ok (.getfield 60, 3) := by decide +kernel
theorem dX12_batch_143 : decode cX12_batch 143 = .ok (.aload_n 0, 1) := by decide +kernel
theorem dX12_batch_144 : decode cX12_batch 144 = .ok (.getfield 51, 3) := by decide +kernel
theorem dX12_batch_147 : decode cX12_batch 147 = .ok (.iload_n 1, 1) := by decide +kernel
theorem dX12_batch_148 : decode cX12_batch 148 = .ok (.iaload, 1) := by decide +kernel
theorem dX12_batch_149 : decode cX12_batch 149 = .ok (.iload_n 3, 1) := by decide +kernel
theorem dX12_batch_150 : decode cX12_batch 150 = .ok (.iadd, 1) := by decide +kernel
theorem dX12_batch_151 : decode cX12_batch 151 = .ok (.iaload, 1) := by decide +kernel
theorem dX12_batch_152 : decode cX12_batch 152 = .ok (.ireturn, 1) := by decide +kernel
set_option maxRecDepth 20000 in
theorem ggX12_found_X12_isRecord : GoodIn wsX12_found wsX12_isRecord := goodIn_r _ [8, 9, 10, 11, 7, 12, 13, 14, 15, 16, 17, 18, 19, 20, 21, 22, 23, 24, 25, 26, 27, 28, 29, 30, 31, 32, 33, 34, 35, 36, 37, 38, 39, 40, 41, 42, 43, 44, 45, 46, 47, 48, 49, 50, 51, 52, 53, 54, 55, 56, 57, 58, 59, 60, 61, 62] (by decide +kernel) (by decide +kernel)
set_option maxRecDepth 20000 in
theorem gX12_found_X12_isRecord : GoodIn wsX12_found (wsV RX12 171 RX12 yX12_isRecord wsX12_isRecord) := goodIn_app (goodIn_of _ (by decide +kernel)) ggX12_found_X12_isRecord
set_option maxRecDepth 20000 in
theorem ggX12_found_X12_in : GoodIn wsX12_found wsX12_in := goodIn_r _ [12] (by decide +kernel) (by decide +kernel)
set_option maxRecDepth 20000 in
theorem gX12_found_X12_in : GoodIn wsX12_found (va_wsS RX12 123 yX12_in wsX12_in) := goodIn_app (goodIn_of _ (by decide +kernel)) ggX12_found_X12_in
theorem dX12_found_0 : decode cX12_found 0 = .ok (.aload_n 0, 1) := by decide +kernel
theorem dX12_found_1 : decode cX12_found 1 = .ok (.iload_n 1, 1) := by decide +kernel
theorem dX12_found_2 : decode cX12_found 2 = .ok (.invokevirtual 171, 3) := by decide +kernel
theorem dX12_found_5 : decode cX12_found 5 = .ok (.ifCond .ne 5, 3) := by decide +kernel
theorem dX12_found_8 : decode cX12_found 8 = .ok (.iconst (-1), 1) := by decide +kernel
theorem dX12_found_9 : decode cX12_found 9 = .ok (.ireturn, 1) := by decide +kernel
theorem dX12_found_10 : decode cX12_found 10 = .ok (.iload_n 2, 1) := by decide +kernel
theorem dX12_found_11 : decode cX12_found 11 = .ok (.i2l, 1) := by decide +kernel
theorem dX12_found_12 : decode cX12_found 12 = .ok (.lconst 0, 1) := by decide +kernel
theorem dX12_found_13 : decode cX12_found 13 = .ok (.ldc2_w 195, 3) := by decide +kernel
theorem dX12_found_16 : decode cX12_found 16 = .ok (.invokestatic 123, 3) := by decide +kernel
theorem dX12_found_19 : decode cX12_found 19 = .ok (.ifCond .ne 6, 3) := by decide +kernel
theorem dX12_found_22 : decode cX12_found 22 = .ok (.bipush (-2), 2) := by decide +kernel
theorem dX12_found_24 : decode cX12_found 24 = .ok (.ireturn, 1) := by decide +kernel
theorem dX12_found_25 : decode cX12_found 25 = .ok (.aload_n 0, 1) := by decide +kernel
theorem dX12_found_26 : decode cX12_found 26 = .ok (.getfield 7, 3) := by decide +kernel
theorem dX12_found_29 : decode cX12_found 29 = .ok (.iload_n 1, 1) := by decide +kernel
theorem dX12_found_30 : decode cX12_found 30 = .ok (.iaload, 1) := by decide +kernel
theorem dX12_found_31 : decode cX12_found 31 = .ok (.iconst 3, 1) := by decide +kernel
theorem dX12_found_32 : decode cX12_found 32 = .ok (.if_icmp .ne 17, 3) := by decide +kernel
theorem dX12_found_35 : decode cX12_found 35 = .ok (.aload_n 0, 1) := by decide +kernel
theorem dX12_found_36 : decode cX12_found 36 = .ok (.getfield 63, 3) := by decide +kernel
theorem dX12_found_39 : decode cX12_found 39 = .ok (.bipush 6, 2) := by decide +kernel
theorem dX12_found_41 : decode cX12_found 41 = .ok (.iload_n 1, 1) := by decide +kernel
theorem dX12_found_42 : decode cX12_found 42 = .ok (.imul, 1) := by decide +kernel
theorem dX12_found_43 : decode cX12_found 43 = .ok (.iload_n 2, 1) := by decide +kernel
theorem dX12_found_44 : decode cX12_found 44 = .ok (.iadd, 1) := by decide +kernel
theorem dX12_found_45 : decode cX12_found 45 = .ok (.iaload, 1) := by decide +kernel
theorem dX12_found_46 : decode cX12_found 46 = .ok (.goto 5, 3) := by decide +kernel
theorem dX12_found_49 : decode cX12_found 49 = .ok (.bipush (-5), 2) := by decide +kernel
theorem dX12_found_51 : decode cX12_found 51 = .ok (.ireturn, 1) := by decide +kernel
theorem dX12_manyOf_0 : decode cX12_manyOf 0 = .ok (.iconst 0, 1) := by decide +kernel
theorem dX12_manyOf_1 : decode cX12_manyOf 1 = .ok (.istore_n 3, 1) := by decide +kernel
theorem dX12_manyOf_2 : decode cX12_manyOf 2 = .ok (.iconst 0, 1) := by decide +kernel
theorem dX12_manyOf_3 : decode cX12_manyOf 3 = .ok (.istore 4, 2) := by decide +kernel
theorem dX12_manyOf_5 : decode cX12_manyOf 5 = .ok (.iload 4, 2) := by decide +kernel
theorem dX12_manyOf_7 : decode cX12_manyOf 7 = .ok (.aload_n 0, 1) := by decide +kernel
theorem dX12_manyOf_8 : decode cX12_manyOf 8 = .ok (.getfield 127, 3) := by decide +kernel
theorem dX12_manyOf_11 : decode cX12_manyOf 11 = .ok (.if_icmp .ge 39, 3) := by decide +kernel
theorem dX12_manyOf_14 : decode cX12_manyOf 14 = .ok (.iload_n 3, 1) := by decide +kernel
theorem dX12_manyOf_15 : decode cX12_manyOf 15 = .ok (.aload_n 0, 1) := by decide +kernel
theorem dX12_manyOf_16 : decode cX12_manyOf 16 = .ok (.getfield 7, 3) := by decide +kernel
theorem dX12_manyOf_19 : decode cX12_manyOf 19 = .ok (.iload 4, 2) := by decide +kernel
theorem dX12_manyOf_21 : decode cX12_manyOf 21 = .ok (.iaload, 1) := by decide +kernel
theorem dX12_manyOf_22 : decode cX12_manyOf 22 = .ok (.iload_n 1, 1) := by decide +kernel
theorem dX12_manyOf_23 : decode cX12_manyOf 23 = .ok (.if_icmp .ne 18, 3) := by decide +kernel
theorem dX12_manyOf_26 : decode cX12_manyOf 26 = .ok (.aload_n 0, 1) := by decide +kernel
theorem dX12_manyOf_27 : decode cX12_manyOf 27 = .ok (.getfield 19, 3) := by decide +kernel
theorem dX12_manyOf_30 : decode cX12_manyOf 30 = .ok (.iload 4, 2) := by decide +kernel
theorem dX12_manyOf_32 : decode cX12_manyOf 32 = .ok (.iaload, 1) := by decide +kernel
theorem dX12_manyOf_33 : decode cX12_manyOf 33 = .ok (.iload_n 2, 1) := by decide +kernel
theorem dX12_manyOf_34 : decode cX12_manyOf 34 = .ok (.if_icmp .ne 7, 3) := by decide +kernel
theorem dX12_manyOf_37 : decode cX12_manyOf 37 = .ok (.iconst 1, 1) := by decide +kernel
theorem dX12_manyOf_38 : decode cX12_manyOf 38 = .ok (.goto 4, 3) := by decide +kernel
theorem dX12_manyOf_41 : decode cX12_manyOf 41 = .ok (.iconst 0, 1) := by decide +kernel
theorem dX12_manyOf_42 : decode cX12_manyOf 42 = .ok (.iadd, 1) := by decide +kernel
theorem dX12_manyOf_43 : decode cX12_manyOf 43 = .ok (.istore_n 3, 1) := by decide +kernel
theorem dX12_manyOf_44 : decode cX12_manyOf 44 = .ok (.iinc 4 1, 3) := by decide +kernel
theorem dX12_manyOf_47 : decode cX12_manyOf 47 = .ok (.goto (-42), 3) := by decide +kernel
theorem dX12_manyOf_50 : decode cX12_manyOf 50 = .ok (.iload_n 3, 1) := by decide +kernel
theorem dX12_manyOf_51 : decode cX12_manyOf 51 = .ok (.ireturn, 1) := by decide +kernel
set_option maxRecDepth 20000 in
theorem ggX12_about_X12_isBaker : GoodIn wsX12_about wsX12_isBaker := goodIn_r _ [9, 10, 11, 12, 8, 13, 26, 27, 28, 29, 30, 31, 32, 33, 34, 35, 36, 37, 38, 39, 40, 41, 42, 43, 44, 45, 46, 47, 48, 49, 50, 51, 52, 53, 54, 55, 56, 57, 58, 59, 60, 61, 62, 63, 64, 65, 66, 67, 68, 69, 70, 71, 72, 73, 74, 75] (by decide +kernel) (by decide +kernel)
set_option maxRecDepth 20000 in
theorem gX12_about_X12_isBaker : GoodIn wsX12_about (wsV RX12 159 RX12 yX12_isBaker wsX12_isBaker) := goodIn_app (goodIn_of _ (by decide +kernel)) ggX12_about_X12_isBaker
set_option maxRecDepth 20000 in
theorem ggX12_about_X12_flourOf : GoodIn wsX12_about wsX12_flourOf := goodIn_r _ [17, 18, 19, 20, 21, 26, 27, 28, 29, 30, 31, 32, 33, 34, 35, 36, 37, 38, 39, 40, 41, 42, 43, 44, 45, 46, 47, 48, 49, 50, 51, 52, 53, 54, 55, 56, 57, 58, 59, 60, 61, 62, 63, 64, 65, 66, 67, 68, 69, 70, 71, 72, 73, 74, 75] (by decide +kernel) (by decide +kernel)
set_option maxRecDepth 20000 in
theorem gX12_about_X12_flourOf : GoodIn wsX12_about (wsV RX12 210 RX12 yX12_flourOf wsX12_flourOf) := goodIn_app (goodIn_of _ (by decide +kernel)) ggX12_about_X12_flourOf
set_option maxRecDepth 20000 in
theorem ggX12_about_X12_manyOf : GoodIn wsX12_about wsX12_manyOf := goodIn_r _ [25, 18, 19, 20, 26, 27, 28, 29, 30, 31, 32, 33, 34, 35, 36, 37, 38, 39, 40, 41, 42, 43, 44, 45, 46, 47, 48, 49, 50, 51, 52, 53, 54, 55, 56, 57, 58, 59, 60, 61, 62, 63, 64, 65, 66, 67, 68, 69, 70, 71, 72, 73, 74, 75] (by decide +kernel) (by decide +kernel)
set_option maxRecDepth 20000 in
theorem gX12_about_X12_manyOf : GoodIn wsX12_about (wsV RX12 235 RX12 yX12_manyOf wsX12_manyOf) := goodIn_app (goodIn_of _ (by decide +kernel)) ggX12_about_X12_manyOf
