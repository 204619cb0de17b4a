theorem dX12_about_0 : decode cX12_about 0 = .ok (.aload_n 0, 1) := by decide +kernel
theorem dX12_about_1 : decode cX12_about 1 = .ok (.iload_n 1, 1) := by decide +kernel
theorem dX12_about_2 : decode cX12_about 2 = .ok (.invokevirtual 159, 3) := by decide +kernel
theorem dX12_about_5 : decode cX12_about 5 = .ok (.ifCond .ne 5, 3) := by decide +kernel
theorem dX12_about_8 : decode cX12_about 8 = .ok (.iconst (-1), 1) := by decide +kernel
theorem dX12_about_9 : decode cX12_about 9 = .ok (.ireturn, 1) := by decide +kernel
theorem dX12_about_10 : decode cX12_about 10 = .ok (.iload_n 2, 1) := by decide +kernel
theorem dX12_about_11 : decode cX12_about 11 = .ok (.tableswitch 100 0 7 #[45, 51, 58, 65, 72, 79, 86, 93], 45) := by decide +kernel
theorem dX12_about_56 : decode cX12_about 56 = .ok (.aload_n 0, 1) := by decide +kernel
theorem dX12_about_57 : decode cX12_about 57 = .ok (.iload_n 1, 1) := by decide +kernel
theorem dX12_about_58 : decode cX12_about 58 = .ok (.invokevirtual 210, 3) := by decide +kernel
theorem dX12_about_61 : decode cX12_about 61 = .ok (.ireturn, 1) := by decide +kernel
theorem dX12_about_62 : decode cX12_about 62 = .ok (.aload_n 0, 1) := by decide +kernel
theorem dX12_about_63 : decode cX12_about 63 = .ok (.iconst 1, 1) := by decide +kernel
theorem dX12_about_64 : decode cX12_about 64 = .ok (.iload_n 1, 1) := by decide +kernel
theorem dX12_about_65 : decode cX12_about 65 = .ok (.invokevirtual 235, 3) := by decide +kernel
theorem dX12_about_68 : decode cX12_about 68 = .ok (.ireturn, 1) := by decide +kernel
theorem dX12_about_69 : decode cX12_about 69 = .ok (.aload_n 0, 1) := by decide +kernel
theorem dX12_about_70 : decode cX12_about 70 = .ok (.iconst 2, 1) := by decide +kernel
theorem dX12_about_71 : decode cX12_about 71 = .ok (.iload_n 1, 1) := by decide +kernel
theorem dX12_about_72 : decode cX12_about 72 = .ok (.invokevirtual 235, 3) := by decide +kernel
theorem dX12_about_75 : decode cX12_about 75 = .ok (.ireturn, 1) := by decide +kernel
theorem dX12_about_76 : decode cX12_about 76 = .ok (.aload_n 0, 1) := by decide +kernel
theorem dX12_about_77 : decode cX12_about 77 = .ok (.iconst 3, 1) := by decide +kernel
theorem dX12_about_78 : decode cX12_about 78 = .ok (.iload_n 1, 1) := by decide +kernel
theorem dX12_about_79 : decode cX12_about 79 = .ok (.invokevirtual 235, 3) := by decide +kernel
theorem dX12_about_82 : decode cX12_about 82 = .ok (.ireturn, 1) := by decide +kernel
theorem dX12_about_83 : decode cX12_about 83 = .ok (.aload_n 0, 1) := by decide +kernel
theorem dX12_about_84 : decode cX12_about 84 = .ok (.getfield 66, 3) := by decide +kernel
theorem dX12_about_87 : decode cX12_about 87 = .ok (.iload_n 1, 1) := by decide +kernel
theorem dX12_about_88 : decode cX12_about 88 = .ok (.iaload, 1) := by decide +kernel
theorem dX12_about_89 : decode cX12_about 89 = .ok (.ireturn, 1) := by decide +kernel
theorem dX12_about_90 : decode cX12_about 90 = .ok (.aload_n 0, 1) := by decide +kernel
theorem dX12_about_91 : decode cX12_about 91 = .ok (.getfield 69, 3) := by decide +kernel
theorem dX12_about_94 : decode cX12_about 94 = .ok (.iload_n 1, 1) := by decide +kernel
theorem dX12_about_95 : decode cX12_about 95 = .ok (.iaload, 1) := by decide +kernel
theorem dX12_about_96 : decode cX12_about 96 = .ok (.ireturn, 1) := by decide +kernel
theorem dX12_about_97 : decode cX12_about 97 = .ok (.aload_n 0, 1) := by decide +kernel
theorem dX12_about_98 : decode cX12_about 98 = .ok (.getfield 72, 3) := by decide +kernel
theorem dX12_about_101 : decode cX12_about 101 = .ok (.iload_n 1, 1) := by decide +kernel
theorem dX12_about_102 : decode cX12_about 102 = .ok (.iaload, 1) := by decide +kernel
theorem dX12_about_103 : decode cX12_about 103 = .ok (.ireturn, 1) := by decide +kernel
theorem dX12_about_104 : decode cX12_about 104 = .ok (.aload_n 0, 1) := by decide +kernel
theorem dX12_about_105 : decode cX12_about 105 = .ok (.getfield 75, 3) := by decide +kernel
theorem dX12_about_108 : decode cX12_about 108 = .ok (.iload_n 1, 1) := by decide +kernel
theorem dX12_about_109 : decode cX12_about 109 = .ok (.iaload, 1) := by decide +kernel
theorem dX12_about_110 : decode cX12_about 110 = .ok (.ireturn, 1) := by decide +kernel
theorem dX12_about_111 : decode cX12_about 111 = .ok (.bipush (-2), 2) := by decide +kernel
theorem dX12_about_113 : decode cX12_about 113 = .ok (.ireturn, 1) := by decide +kernel
theorem dX12_needOf_0 : decode cX12_needOf 0 = .ok (.aload_n 0, 1) := by decide +kernel
theorem dX12_needOf_1 : decode cX12_needOf 1 = .ok (.getfield 238, 3) := by decide +kernel
theorem dX12_needOf_4 : decode cX12_needOf 4 = .ok (.i2l, 1) := by decide +kernel
theorem dX12_needOf_5 : decode cX12_needOf 5 = .ok (.aload_n 0, 1) := by decide +kernel
theorem dX12_needOf_6 : decode cX12_needOf 6 = .ok (.getfield 108, 3) := by decide +kernel
theorem dX12_needOf_9 : decode cX12_needOf 9 = .ok (.i2l, 1) := by decide +kernel
theorem dX12_needOf_10 : decode cX12_needOf 10 = .ok (.lmul, 1) := by decide +kernel
theorem dX12_needOf_11 : decode cX12_needOf 11 = .ok (.iload_n 1, 1) := by decide +kernel
theorem dX12_needOf_12 : decode cX12_needOf 12 = .ok (.i2l, 1) := by decide +kernel
theorem dX12_needOf_13 : decode cX12_needOf 13 = .ok (.lmul, 1) := by decide +kernel
theorem dX12_needOf_14 : decode cX12_needOf 14 = .ok (.ldc2_w 182, 3) := by decide +kernel
theorem dX12_needOf_17 : decode cX12_needOf 17 = .ok (.ldiv, 1) := by decide +kernel
theorem dX12_needOf_18 : decode cX12_needOf 18 = .ok (.l2i, 1) := by decide +kernel
theorem dX12_needOf_19 : decode cX12_needOf 19 = .ok (.ireturn, 1) := by decide +kernel
set_option maxRecDepth 20000 in
theorem ggX12_store_X12_in : GoodIn wsX12_store wsX12_in := goodIn_r _ [7] (by decide +kernel) (by decide +kernel)
set_option maxRecDepth 20000 in
theorem gX12_store_X12_in : GoodIn wsX12_store (va_wsS RX12 123 yX12_in wsX12_in) := goodIn_app (goodIn_of _ (by decide +kernel)) ggX12_store_X12_in
theorem dX12_store_0 : decode cX12_store 0 = .ok (.iload_n 1, 1) := by decide +kernel
theorem dX12_store_1 : decode cX12_store 1 = .ok (.i2l, 1) := by decide +kernel
theorem dX12_store_2 : decode cX12_store 2 = .ok (.lconst 1, 1) := by decide +kernel
theorem dX12_store_3 : decode cX12_store 3 = .ok (.ldc2_w 241, 3) := by decide +kernel
theorem dX12_store_6 : decode cX12_store 6 = .ok (.invokestatic 123, 3) := by decide +kernel
theorem dX12_store_9 : decode cX12_store 9 = .ok (.ifCond .ne 6, 3) := by decide +kernel
theorem dX12_store_12 : decode cX12_store 12 = .ok (.bipush (-2), 2) := by decide +kernel
theorem dX12_store_14 : decode cX12_store 14 = .ok (.ireturn, 1) := by decide +kernel
theorem dX12_store_15 : decode cX12_store 15 = .ok (.aload_n 0, 1) := by decide +kernel
theorem dX12_store_16 : decode cX12_store 16 = .ok (.getfield 143, 3) := by decide +kernel
theorem dX12_store_19 : decode cX12_store 19 = .ok (.iload_n 1, 1) := by decide +kernel
theorem dX12_store_20 : decode cX12_store 20 = .ok (.iadd, 1) := by decide +kernel
theorem dX12_store_21 : decode cX12_store 21 = .ok (.ldc 149, 2) := by decide +kernel
theorem dX12_store_23 : decode cX12_store 23 = .ok (.if_icmp .le 6, 3) := by decide +kernel
theorem dX12_store_26 : decode cX12_store 26 = .ok (.bipush (-4), 2) := by decide +kernel
theorem dX12_store_28 : decode cX12_store 28 = .ok (.ireturn, 1) := by decide +kernel
theorem dX12_store_29 : decode cX12_store 29 = .ok (.aload_n 0, 1) := by decide +kernel
theorem dX12_store_30 : decode cX12_store 30 = .ok (.dup, 1) := by decide +kernel
theorem dX12_store_31 : decode cX12_store 31 = .ok (.getfield 143, 3) := by decide +kernel
theorem dX12_store_34 : decode cX12_store 34 = .ok (.iload_n 1, 1) := by decide +kernel
theorem dX12_store_35 : decode cX12_store 35 = .ok (.iadd, 1) := by decide +kernel
theorem dX12_store_36 : decode cX12_store 36 = .ok (.putfield 143, 3) := by decide +kernel
theorem dX12_store_39 : decode cX12_store 39 = .ok (.aload_n 0, 1) := by decide +kernel
theorem dX12_store_40 : decode cX12_store 40 = .ok (.getfield 143, 3) := by decide +kernel
theorem dX12_store_43 : decode cX12_store 43 = .ok (.ireturn, 1) := by decide +kernel
set_option maxRecDepth 20000 in
theorem ggX12_mouths_X12_in : GoodIn wsX12_mouths wsX12_in := goodIn_r _ [8] (by decide +kernel) (by decide +kernel)
set_option maxRecDepth 20000 in
theorem gX12_mouths_X12_in : GoodIn wsX12_mouths (va_wsS RX12 123 yX12_in wsX12_in) := goodIn_app (goodIn_of _ (by decide +kernel)) ggX12_mouths_X12_in
theorem dX12_mouths_0 : decode cX12_mouths 0 = .ok (.iload_n 1, 1) := by decide +kernel
theorem dX12_mouths_1 : decode cX12_mouths 1 = .ok (.i2l, 1) := by decide +kernel
theorem dX12_mouths_2 : decode cX12_mouths 2 = .ok (.lconst 0, 1) := by decide +kernel
theorem dX12_mouths_3 : decode cX12_mouths 3 = .ok (.ldc2_w 243, 3) := by decide +kernel
theorem dX12_mouths_6 : decode cX12_mouths 6 = .ok (.invokestatic 123, 3) := by decide +kernel
theorem dX12_mouths_9 : decode cX12_mouths 9 = .ok (.ifCond .eq 15, 3) := by decide +kernel
theorem dX12_mouths_12 : decode cX12_mouths 12 = .ok (.iload_n 2, 1) := by decide +kernel
theorem dX12_mouths_13 : decode cX12_mouths 13 = .ok (.i2l, 1) := by decide +kernel
theorem dX12_mouths_14 : decode cX12_mouths 14 = .ok (.lconst 1, 1) := by decide +kernel
theorem dX12_mouths_15 : decode cX12_mouths 15 = .ok (.ldc2_w 165, 3) := by decide +kernel
theorem dX12_mouths_18 : decode cX12_mouths 18 = .ok (.invokestatic 123, 3) := by decide +kernel
theorem dX12_mouths_21 : decode cX12_mouths 21 = .ok (.ifCond .ne 6, 3) := by decide +kernel
theorem dX12_mouths_24 : decode cX12_mouths 24 = .ok (.bipush (-2), 2) := by decide +kernel
theorem dX12_mouths_26 : decode cX12_mouths 26 = .ok (.ireturn, 1) := by decide +kernel
theorem dX12_mouths_27 : decode cX12_mouths 27 = .ok (.aload_n 0, 1) := by decide +kernel
theorem dX12_mouths_28 : decode cX12_mouths 28 = .ok (.iload_n 1, 1) := by decide +kernel
theorem dX12_mouths_29 : decode cX12_mouths 29 = .ok (.putfield 238, 3) := by decide +kernel
theorem dX12_mouths_32 : decode cX12_mouths 32 = .ok (.aload_n 0, 1) := by decide +kernel
theorem dX12_mouths_33 : decode cX12_mouths 33 = .ok (.iload_n 2, 1) := by decide +kernel
theorem dX12_mouths_34 : decode cX12_mouths 34 = .ok (.putfield 108, 3) := by decide +kernel
theorem dX12_mouths_37 : decode cX12_mouths 37 = .ok (.iconst 1, 1) := by decide +kernel
theorem dX12_mouths_38 : decode cX12_mouths 38 = .ok (.ireturn, 1) := by decide +kernel
set_option maxRecDepth 20000 in
theorem ggX12_ration_X12_in : GoodIn wsX12_ration wsX12_in := goodIn_r _ [6] (by decide +kernel) (by decide +kernel)
set_option maxRecDepth 20000 in
theorem gX12_ration_X12_in : GoodIn wsX12_ration (va_wsS RX12 123 yX12_in wsX12_in) := goodIn_app (goodIn_of _ (by decide +kernel)) ggX12_ration_X12_in
theorem dX12_ration_0 : decode cX12_ration 0 = .ok (.iload_n 1, 1) := by decide +kernel
theorem dX12_ration_1 : decode cX12_ration 1 = .ok (.i2l, 1) := by decide +kernel
theorem dX12_ration_2 : decode cX12_ration 2 = .ok (.lconst 1, 1) := by decide +kernel
theorem dX12_ration_3 : decode cX12_ration 3 = .ok (.ldc2_w 182, 3) := by decide +kernel
theorem dX12_ration_6 : decode cX12_ration 6 = .ok (.invokestatic 123, 3) := by decide +kernel
theorem dX12_ration_9 : decode cX12_ration 9 = .ok (.ifCond .ne 6, 3) := by decide +kernel
theorem dX12_ration_12 : decode cX12_ration 12 = .ok (.bipush (-2), 2) := by decide +kernel
theorem dX12_ration_14 : decode cX12_ration 14 = .ok (.ireturn, 1) := by decide +kernel
theorem dX12_ration_15 : decode cX12_ration 15 = .ok (.aload_n 0, 1) := by decide +kernel
theorem dX12_ration_16 : decode cX12_ration 16 = .ok (.getfield 111, 3) := by decide +kernel
theorem dX12_ration_19 : decode cX12_ration 19 = .ok (.istore_n 2, 1) := by decide +kernel
theorem dX12_ration_20 : decode cX12_ration 20 = .ok (.aload_n 0, 1) := by decide +kernel
theorem dX12_ration_21 : decode cX12_ration 21 = .ok (.iload_n 1, 1) := by decide +kernel
theorem dX12_ration_22 : decode cX12_ration 22 = .ok (.putfield 111, 3) := by decide +kernel
theorem dX12_ration_25 : decode cX12_ration 25 = .ok (.iload_n 2, 1) := by decide +kernel
theorem dX12_ration_26 : decode cX12_ration 26 = .ok (.ireturn, 1) := by decide +kernel
set_option maxRecDepth 20000 in
theorem ggX12_harvest_X12_in : GoodIn wsX12_harvest wsX12_in := goodIn_r _ [10] (by decide +kernel) (by decide +kernel)
set_option maxRecDepth 20000 in
theorem gX12_harvest_X12_in : GoodIn wsX12_harvest (va_wsS RX12 123 yX12_in wsX12_in) := goodIn_app (goodIn_of _ (by decide +kernel)) ggX12_harvest_X12_in
theorem dX12_harvest_0 : decode cX12_harvest 0 = .ok (.iload_n 1, 1) := by decide +kernel
theorem dX12_harvest_1 : decode cX12_harvest 1 = .ok (.i2l, 1) := by decide +kernel
theorem dX12_harvest_2 : decode cX12_harvest 2 = .ok (.lconst 0, 1) := by decide +kernel
theorem dX12_harvest_3 : decode cX12_harvest 3 = .ok (.ldc2_w 189, 3) := by decide +kernel
theorem dX12_harvest_6 : decode cX12_harvest 6 = .ok (.invokestatic 123, 3) := by decide +kernel
theorem dX12_harvest_9 : decode cX12_harvest 9 = .ok (.ifCond .eq 15, 3) := by decide +kernel
theorem dX12_harvest_12 : decode cX12_harvest 12 = .ok (.iload_n 2, 1) := by decide +kernel
theorem dX12_harvest_13 : decode cX12_harvest 13 = .ok (.i2l, 1) := by decide +kernel
theorem dX12_harvest_14 : decode cX12_harvest 14 = .ok (.lconst 1, 1) := by decide +kernel
theorem dX12_harvest_15 : decode cX12_harvest 15 = .ok (.ldc2_w 241, 3) := by decide +kernel
theorem dX12_harvest_18 : decode cX12_harvest 18 = .ok (.invokestatic 123, 3) := by decide +kernel
theorem dX12_harvest_21 : decode cX12_harvest 21 = .ok (.ifCond .ne 6, 3) := by decide +kernel
theorem dX12_harvest_24 : decode cX12_harvest 24 = .ok (.bipush (-2), 2) := by decide +kernel
theorem dX12_harvest_26 : decode cX12_harvest 26 = .ok (.ireturn, 1) := by decide +kernel
theorem dX12_harvest_27 : decode cX12_harvest 27 = .ok (.aload_n 0, 1) := by decide +kernel
theorem dX12_harvest_28 : decode cX12_harvest 28 = .ok (.getfield 146, 3) := by decide +kernel
theorem dX12_harvest_31 : decode cX12_harvest 31 = .ok (.bipush 10, 2) := by decide +kernel
theorem dX12_harvest_33 : decode cX12_harvest 33 = .ok (.if_icmp .ne 6, 3) := by decide +kernel
theorem dX12_harvest_36 : decode cX12_harvest 36 = .ok (.bipush (-4), 2) := by decide +kernel
theorem dX12_harvest_38 : decode cX12_harvest 38 = .ok (.ireturn, 1) := by decide +kernel
theorem dX12_harvest_39 : decode cX12_harvest 39 = .ok (.iload_n 1, 1) := by decide +kernel
theorem dX12_harvest_40 : decode cX12_harvest 40 = .ok (.aload_n 0, 1) := by decide +kernel
theorem dX12_harvest_41 : decode cX12_harvest 41 = .ok (.getfield 130, 3) := by decide +kernel
theorem dX12_harvest_44 : decode cX12_harvest 44 = .ok (.if_icmp .gt 6, 3) := by decide +kernel
theorem dX12_harvest_47 : decode cX12_harvest 47 = .ok (.bipush (-5), 2) := by decide +kernel
theorem dX12_harvest_49 : decode cX12_harvest 49 = .ok (.ireturn, 1) := by decide +kernel
theorem dX12_harvest_50 : decode cX12_harvest 50 = .ok (.aload_n 0, 1) := by decide +kernel
theorem dX12_harvest_51 : decode cX12_harvest 51 = .ok (.getfield 114, 3) := by decide +kernel
theorem dX12_harvest_54 : decode cX12_harvest 54 = .ok (.aload_n 0, 1) := by decide +kernel
theorem dX12_harvest_55 : decode cX12_harvest 55 = .ok (.getfield 146, 3) := by decide +kernel
theorem dX12_harvest_58 : decode cX12_harvest 58 = .ok (.iload_n 1, 1) := by decide +kernel
theorem dX12_harvest_59 : decode cX12_harvest 59 = .ok (.iastore, 1) := by decide +kernel
theorem dX12_harvest_60 : decode cX12_harvest 60 = .ok (.aload_n 0, 1) := by decide +kernel
theorem dX12_harvest_61 : decode cX12_harvest 61 = .ok (.getfield 117, 3) := by decide +kernel
theorem dX12_harvest_64 : decode cX12_harvest 64 = .ok (.aload_n 0, 1) := by decide +kernel
theorem dX12_harvest_65 : decode cX12_harvest 65 = .ok (.getfield 146, 3) := by decide +kernel
theorem dX12_harvest_68 : decode cX12_harvest 68 = .ok (.iload_n 2, 1) := by decide +kernel
theorem dX12_harvest_69 : decode cX12_harvest 69 = .ok (.iastore, 1) := by decide +kernel
theorem dX12_harvest_70 : decode cX12_harvest 70 = .ok (.aload_n 0, 1) := by decide +kernel
theorem dX12_harvest_71 : decode cX12_harvest 71 = .ok (.dup, 1) := by decide +kernel
theorem dX12_harvest_72 : decode cX12_harvest 72 = .ok (.getfield 146, 3) := by decide +kernel
theorem dX12_harvest_75 : decode cX12_harvest 75 = .ok (.iconst 1, 1) := by decide +kernel
theorem dX12_harvest_76 : decode cX12_harvest 76 = .ok (.iadd, 1) := by decide +kernel
theorem dX12_harvest_77 : decode cX12_harvest 77 = .ok (.putfield 146, 3) := by decide +kernel
theorem dX12_harvest_80 : decode cX12_harvest 80 = .ok (.aload_n 0, 1) := by decide +kernel
theorem dX12_harvest_81 : decode cX12_harvest 81 = .ok (.getfield 146, 3) := by decide +kernel
theorem dX12_harvest_84 : decode cX12_harvest 84 = .ok (.ireturn, 1) := by decide +kernel
set_option maxRecDepth 20000 in
theorem ggX12_hungerBy_X12_needOf : GoodIn wsX12_hungerBy wsX12_needOf := goodIn_r _ [11, 12, 13, 14, 15, 16, 17, 18, 19, 20, 21, 22, 23, 24, 25, 26, 27, 28, 29, 30, 31, 32, 33, 34, 35, 36, 37, 38, 39, 40, 41, 42, 43, 44, 45, 46, 47, 48, 49, 50, 51, 52, 53, 54, 55, 56, 57, 58, 59, 60, 61, 62, 63, 64] (by decide +kernel) (by decide +kernel)
set_option maxRecDepth 20000 in
theorem gX12_hungerBy_X12_needOf : GoodIn wsX12_hungerBy (wsV RX12 136 RX12 yX12_needOf wsX12_needOf) := goodIn_app (goodIn_of _ (by decide +kernel)) ggX12_hungerBy_X12_needOf
theorem dX12_hungerBy_0 : decode cX12_hungerBy 0 = .ok (.aload_n 0, 1) := by decide +kernel
theorem dX12_hungerBy_1 : decode cX12_hungerBy 1 = .ok (.iload_n 1, 1) := by decide +kernel
theorem dX12_hungerBy_2 : decode cX12_hungerBy 2 = .ok (.invokevirtual 136, 3) := by decide +kernel
theorem dX12_hungerBy_5 : decode cX12_hungerBy 5 = .ok (.istore_n 3, 1) := by decide +kernel
theorem dX12_hungerBy_6 : decode cX12_hungerBy 6 = .ok (.aload_n 0, 1) := by decide +kernel
theorem dX12_hungerBy_7 : decode cX12_hungerBy 7 = .ok (.getfield 143, 3) := by decide +kernel
theorem dX12_hungerBy_10 : decode cX12_hungerBy 10 = .ok (.istore 4, 2) := by decide +kernel
theorem dX12_hungerBy_12 : decode cX12_hungerBy 12 = .ok (.aload_n 0, 1) := by decide +kernel
theorem dX12_hungerBy_13 : decode cX12_hungerBy 13 = .ok (.getfield 130, 3) := by decide +kernel
theorem dX12_hungerBy_16 : decode cX12_hungerBy 16 = .ok (.istore 5, 2) := by decide +kernel
theorem dX12_hungerBy_18 : decode cX12_hungerBy 18 = .ok (.iload 5, 2) := by decide +kernel
theorem dX12_hungerBy_20 : decode cX12_hungerBy 20 = .ok (.iload_n 2, 1) := by decide +kernel
theorem dX12_hungerBy_21 : decode cX12_hungerBy 21 = .ok (.if_icmp .gt 88, 3) := by decide +kernel
theorem dX12_hungerBy_24 : decode cX12_hungerBy 24 = .ok (.iload 4, 2) := by decide +kernel
theorem dX12_hungerBy_26 : decode cX12_hungerBy 26 = .ok (.iload_n 3, 1) := by decide +kernel
theorem dX12_hungerBy_27 : decode cX12_hungerBy 27 = .ok (.if_icmp .ge 6, 3) := by decide +kernel
theorem dX12_hungerBy_30 : decode cX12_hungerBy 30 = .ok (.iload 5, 2) := by decide +kernel
theorem dX12_hungerBy_32 : decode cX12_hungerBy 32 = .ok (.ireturn, 1) := by decide +kernel
theorem dX12_hungerBy_33 : decode cX12_hungerBy 33 = .ok (.iload 4, 2) := by decide +kernel
theorem dX12_hungerBy_35 : decode cX12_hungerBy 35 = .ok (.iload_n 3, 1) := by decide +kernel
theorem dX12_hungerBy_36 : decode cX12_hungerBy 36 = .ok (.isub, 1) := by decide +kernel
theorem dX12_hungerBy_37 : decode cX12_hungerBy 37 = .ok (.istore 4, 2) := by decide +kernel
theorem dX12_hungerBy_39 : decode cX12_hungerBy 39 = .ok (.iconst 0, 1) := by decide +kernel
theorem dX12_hungerBy_40 : decode cX12_hungerBy 40 = .ok (.istore 6, 2) := by decide +kernel
theorem dX12_hungerBy_42 : decode cX12_hungerBy 42 = .ok (.iload 6, 2) := by decide +kernel
theorem dX12_hungerBy_44 : decode cX12_hungerBy 44 = .ok (.aload_n 0, 1) := by decide +kernel
theorem dX12_hungerBy_45 : decode cX12_hungerBy 45 = .ok (.getfield 146, 3) := by decide +kernel
theorem dX12_hungerBy_48 : decode cX12_hungerBy 48 = .ok (.if_icmp .ge 55, 3) := by decide +kernel
theorem dX12_hungerBy_51 : decode cX12_hungerBy 51 = .ok (.aload_n 0, 1) := by decide +kernel
theorem dX12_hungerBy_52 : decode cX12_hungerBy 52 = .ok (.getfield 114, 3) := by decide +kernel
theorem dX12_hungerBy_55 : decode cX12_hungerBy 55 = .ok (.iload 6, 2) := by decide +kernel
theorem dX12_hungerBy_57 : decode cX12_hungerBy 57 = .ok (.iaload, 1) := by decide +kernel
theorem dX12_hungerBy_58 : decode cX12_hungerBy 58 = .ok (.iload 5, 2) := by decide +kernel
theorem dX12_hungerBy_60 : decode cX12_hungerBy 60 = .ok (.iconst 1, 1) := by decide +kernel
theorem dX12_hungerBy_61 : decode cX12_hungerBy 61 = .ok (.iadd, 1) := by decide +kernel
theorem dX12_hungerBy_62 : decode cX12_hungerBy 62 = .ok (.if_icmp .ne 35, 3) := by decide +kernel
theorem dX12_hungerBy_65 : decode cX12_hungerBy 65 = .ok (.iload 4, 2) := by decide +kernel
theorem dX12_hungerBy_67 : decode cX12_hungerBy 67 = .ok (.aload_n 0, 1) := by decide +kernel
theorem dX12_hungerBy_68 : decode cX12_hungerBy 68 = .ok (.getfield 117, 3) := by decide +kernel
theorem dX12_hungerBy_71 : decode cX12_hungerBy 71 = .ok (.iload 6, 2) := by decide +kernel
theorem dX12_hungerBy_73 : decode cX12_hungerBy 73 = .ok (.iaload, 1) := by decide +kernel
theorem dX12_hungerBy_74 : decode cX12_hungerBy 74 = .ok (.iadd, 1) := by decide +kernel
theorem dX12_hungerBy_75 : decode cX12_hungerBy 75 = .ok (.ldc 149, 2) := by decide +kernel
theorem dX12_hungerBy_77 : decode cX12_hungerBy 77 = .ok (.if_icmp .le 8, 3) := by decide +kernel
theorem dX12_hungerBy_80 : decode cX12_hungerBy 80 = .ok (.ldc 149, 2) := by decide +kernel
theorem dX12_hungerBy_82 : decode cX12_hungerBy 82 = .ok (.goto 13, 3) := by decide +kernel
theorem dX12_hungerBy_85 : decode cX12_hungerBy 85 = .ok (.iload 4, 2) := by decide +kernel
theorem dX12_hungerBy_87 : decode cX12_hungerBy 87 = .ok (.aload_n 0, 1) := by decide +kernel
theorem dX12_hungerBy_88 : decode cX12_hungerBy 88 = .ok (.getfield 117, 3) := by decide +kernel
theorem dX12_hungerBy_91 : decode cX12_hungerBy 91 = .ok (.iload 6, 2) := by decide +kernel
theorem dX12_hungerBy_93 : decode cX12_hungerBy 93 = .ok (.iaload, 1) := by decide +kernel
theorem dX12_hungerBy_94 : decode cX12_hungerBy 94 = .ok (.iadd, 1) := by decide +kernel
theorem dX12_hungerBy_95 : decode cX12_hungerBy 95 = .ok (.istore 4, 2) := by decide +kernel
theorem dX12_hungerBy_97 : decode cX12_hungerBy 97 = .ok (.iinc 6 1, 3) := by decide +kernel
theorem dX12_hungerBy_100 : decode cX12_hungerBy 100 = .ok (.goto (-58), 3) := by decide +kernel
theorem dX12_hungerBy_103 : decode cX12_hungerBy 103 = .ok (.iinc 5 1, 3) := by decide +kernel
theorem dX12_hungerBy_106 : decode cX12_hungerBy 106 = .ok (.goto (-88), 3) := by decide +kernel
theorem dX12_hungerBy_109 : decode cX12_hungerBy 109 = .ok (.bipush (-6), 2) := by decide +kernel
theorem dX12_hungerBy_111 : decode cX12_hungerBy 111 = .ok (.ireturn, 1) := by decide +kernel
set_option maxRecDepth 20000 in
theorem ggX12_foretell_X12_in : GoodIn wsX12_foretell wsX12_in := goodIn_r _ [5] (by decide +kernel) (by decide +kernel)
set_option maxRecDepth 20000 in
theorem gX12_foretell_X12_in : GoodIn wsX12_foretell (va_wsS RX12 123 yX12_in wsX12_in) := goodIn_app (goodIn_of _ (by decide +kernel)) ggX12_foretell_X12_in
set_option maxRecDepth 20000 in
theorem ggX12_foretell_X12_hungerBy : GoodIn wsX12_foretell wsX12_hungerBy := goodIn_r _ [9, 10, 11, 12, 13, 14, 15, 16, 17, 18, 4, 19, 20, 21, 1, 22, 23, 24, 25, 26, 27, 28, 29, 30, 31, 32, 33, 34, 35, 36, 37, 38, 39, 40, 41, 42, 43, 44, 45, 46, 47, 48, 49, 50, 51, 52, 53, 54, 55, 56, 57, 58, 59, 60, 61, 62, 63, 64, 65, 66, 67, 68, 69, 70, 71] (by decide +kernel) (by decide +kernel)
set_option maxRecDepth 20000 in
theorem gX12_foretell_X12_hungerBy : GoodIn wsX12_foretell (wsV RX12 245 RX12 yX12_hungerBy wsX12_hungerBy) := goodIn_app (goodIn_of _ (by decide +kernel)) ggX12_foretell_X12_hungerBy
theorem dX12_foretell_0 : decode cX12_foretell 0 = .ok (.iload_n 1, 1) := by decide +kernel
theorem dX12_foretell_1 : decode cX12_foretell 1 = .ok (.i2l, 1) := by decide +kernel
theorem dX12_foretell_2 : decode cX12_foretell 2 = .ok (.lconst 1, 1) := by decide +kernel
theorem dX12_foretell_3 : decode cX12_foretell 3 = .ok (.ldc2_w 182, 3) := by decide +kernel
theorem dX12_foretell_6 : decode cX12_foretell 6 = .ok (.invokestatic 123, 3) := by decide +kernel
theorem dX12_foretell_9 : decode cX12_foretell 9 = .ok (.ifCond .eq 14, 3) := by decide +kernel
theorem dX12_foretell_12 : decode cX12_foretell 12 = .ok (.aload_n 0, 1) := by decide +kernel
theorem dX12_foretell_13 : decode cX12_foretell 13 = .ok (.iload_n 1, 1) := by decide +kernel
theorem dX12_foretell_14 : decode cX12_foretell 14 = .ok (.sipush 199, 3) := by decide +kernel
theorem dX12_foretell_17 : decode cX12_foretell 17 = .ok (.invokevirtual 245, 3) := by decide +kernel
theorem dX12_foretell_20 : decode cX12_foretell 20 = .ok (.goto 5, 3) := by decide +kernel
theorem dX12_foretell_23 : decode cX12_foretell 23 = .ok (.bipush (-2), 2) := by decide +kernel
theorem dX12_foretell_25 : decode cX12_foretell 25 = .ok (.ireturn, 1) := by decide +kernel
set_option maxRecDepth 20000 in
theorem ggX12_order_X12_in : GoodIn wsX12_order wsX12_in := goodIn_r _ [6] (by decide +kernel) (by decide +kernel)
set_option maxRecDepth 20000 in
theorem gX12_order_X12_in : GoodIn wsX12_order (va_wsS RX12 123 yX12_in wsX12_in) := goodIn_app (goodIn_of _ (by decide +kernel)) ggX12_order_X12_in
set_option maxRecDepth 20000 in
theorem ggX12_order_X12_hungerBy : GoodIn wsX12_order wsX12_hungerBy := goodIn_r _ [10, 11, 1, 12, 13, 14, 15, 16, 17, 18, 5, 19, 20, 21, 22, 23, 24, 25, 26, 27, 28, 29, 30, 31, 32, 33, 34, 35, 36, 37, 38, 39, 40, 41, 42, 43, 44, 45, 46, 47, 48, 49, 50, 51, 52, 53, 54, 55, 56, 57, 58, 59, 60, 61, 62, 63, 64, 65, 66, 67, 68, 69, 70, 71, 72] (by decide +kernel) (by decide +kernel)
set_option maxRecDepth 20000 in
theorem gX12_order_X12_hungerBy : GoodIn wsX12_order (wsV RX12 245 RX12 yX12_hungerBy wsX12_hungerBy) := goodIn_app (goodIn_of _ (by decide +kernel)) ggX12_order_X12_hungerBy
theorem dX12_order_0 : decode cX12_order 0 = .ok (.iload_n 1, 1) := by decide +kernel
theorem dX12_order_1 : decode cX12_order 1 = .ok (.i2l, 1) := by decide +kernel
theorem dX12_order_2 : decode cX12_order 2 = .ok (.aload_n 0, 1) := by decide +kernel
theorem dX12_order_3 : decode cX12_order 3 = .ok (.getfield 130, 3) := by decide +kernel
theorem dX12_order_6 : decode cX12_order 6 = .ok (.i2l, 1) := by decide +kernel
theorem dX12_order_7 : decode cX12_order 7 = .ok (.ldc2_w 189, 3) := by decide +kernel
theorem dX12_order_10 : decode cX12_order 10 = .ok (.invokestatic 123, 3) := by decide +kernel
theorem dX12_order_13 : decode cX12_order 13 = .ok (.ifCond .ne 6, 3) := by decide +kernel
theorem dX12_order_16 : decode cX12_order 16 = .ok (.bipush (-2), 2) := by decide +kernel
theorem dX12_order_18 : decode cX12_order 18 = .ok (.ireturn, 1) := by decide +kernel
theorem dX12_order_19 : decode cX12_order 19 = .ok (.bipush 100, 2) := by decide +kernel
theorem dX12_order_21 : decode cX12_order 21 = .ok (.istore_n 2, 1) := by decide +kernel
theorem dX12_order_22 : decode cX12_order 22 = .ok (.iload_n 2, 1) := by decide +kernel
theorem dX12_order_23 : decode cX12_order 23 = .ok (.ifCond .le 22, 3) := by decide +kernel
theorem dX12_order_26 : decode cX12_order 26 = .ok (.aload_n 0, 1) := by decide +kernel
theorem dX12_order_27 : decode cX12_order 27 = .ok (.iload_n 2, 1) := by decide +kernel
theorem dX12_order_28 : decode cX12_order 28 = .ok (.iload_n 1, 1) := by decide +kernel
theorem dX12_order_29 : decode cX12_order 29 = .ok (.invokevirtual 245, 3) := by decide +kernel
theorem dX12_order_32 : decode cX12_order 32 = .ok (.bipush (-6), 2) := by decide +kernel
theorem dX12_order_34 : decode cX12_order 34 = .ok (.if_icmp .ne 5, 3) := by decide +kernel
theorem dX12_order_37 : decode cX12_order 37 = .ok (.iload_n 2, 1) := by decide +kernel
theorem dX12_order_38 : decode cX12_order 38 = .ok (.ireturn, 1) := by decide +kernel
theorem dX12_order_39 : decode cX12_order 39 = .ok (.iinc 2 (-1), 3) := by decide +kernel
theorem dX12_order_42 : decode cX12_order 42 = .ok (.goto (-20), 3) := by decide +kernel
theorem dX12_order_45 : decode cX12_order 45 = .ok (.bipush (-6), 2) := by decide +kernel
theorem dX12_order_47 : decode cX12_order 47 = .ok (.ireturn, 1) := by decide +kernel
theorem dX12_told_0 : decode cX12_told 0 = .ok (.iload_n 1, 1) := by decide +kernel
theorem dX12_told_1 : decode cX12_told 1 = .ok (.tableswitch 105 0 9 #[55, 60, 65, 70, 75, 80, 85, 90, 95, 100], 55) := by decide +kernel
theorem dX12_told_56 : decode cX12_told 56 = .ok (.aload_n 0, 1) := by decide +kernel
theorem dX12_told_57 : decode cX12_told 57 = .ok (.getfield 130, 3) := by decide +kernel
theorem dX12_told_60 : decode cX12_told 60 = .ok (.ireturn, 1) := by decide +kernel
theorem dX12_told_61 : decode cX12_told 61 = .ok (.aload_n 0, 1) := by decide +kernel
theorem dX12_told_62 : decode cX12_told 62 = .ok (.getfield 133, 3) := by decide +kernel
theorem dX12_told_65 : decode cX12_told 65 = .ok (.ireturn, 1) := by decide +kernel
theorem dX12_told_66 : decode cX12_told 66 = .ok (.aload_n 0, 1) := by decide +kernel
theorem dX12_told_67 : decode cX12_told 67 = .ok (.getfield 120, 3) := by decide +kernel
theorem dX12_told_70 : decode cX12_told 70 = .ok (.ireturn, 1) := by decide +kernel
theorem dX12_told_71 : decode cX12_told 71 = .ok (.aload_n 0, 1) := by decide +kernel
theorem dX12_told_72 : decode cX12_told 72 = .ok (.getfield 197, 3) := by decide +kernel
theorem dX12_told_75 : decode cX12_told 75 = .ok (.ireturn, 1) := by decide +kernel
theorem dX12_told_76 : decode cX12_told 76 = .ok (.aload_n 0, 1) := by decide +kernel
theorem dX12_told_77 : decode cX12_told 77 = .ok (.getfield 127, 3) := by decide +kernel
theorem dX12_told_80 : decode cX12_told 80 = .ok (.ireturn, 1) := by decide +kernel
theorem dX12_told_81 : decode cX12_told 81 = .ok (.aload_n 0, 1) := by decide +kernel
theorem dX12_told_82 : decode cX12_told 82 = .ok (.getfield 177, 3) := by decide +kernel
theorem dX12_told_85 : decode cX12_told 85 = .ok (.ireturn, 1) := by decide +kernel
theorem dX12_told_86 : decode cX12_told 86 = .ok (.aload_n 0, 1) := by decide +kernel
theorem dX12_told_87 : decode cX12_told 87 = .ok (.getfield 143, 3) := by decide +kernel
theorem dX12_told_90 : decode cX12_told 90 = .ok (.ireturn, 1) := by decide +kernel
theorem dX12_told_91 : decode cX12_told 91 = .ok (.aload_n 0, 1) := by decide +kernel
theorem dX12_told_92 : decode cX12_told 92 = .ok (.getfield 140, 3) := by decide +kernel
theorem dX12_told_95 : decode cX12_told 95 = .ok (.ireturn, 1) := by decide +kernel
theorem dX12_told_96 : decode cX12_told 96 = .ok (.aload_n 0, 1) := by decide +kernel
theorem dX12_told_97 : decode cX12_told 97 = .ok (.getfield 111, 3) := by decide +kernel
theorem dX12_told_100 : decode cX12_told 100 = .ok (.ireturn, 1) := by decide +kernel
theorem dX12_told_101 : decode cX12_told 101 = .ok (.aload_n 0, 1) := by decide +kernel
theorem dX12_told_102 : decode cX12_told 102 = .ok (.getfield 146, 3) := by decide +kernel
theorem dX12_told_105 : decode cX12_told 105 = .ok (.ireturn, 1) := by decide +kernel
theorem dX12_told_106 : decode cX12_told 106 = .ok (.bipush (-2), 2) := by decide +kernel
theorem dX12_told_108 : decode cX12_told 108 = .ok (.ireturn, 1) := by decide +kernel
theorem dJ9_max_7cf53_0 : decode cJ9_max_7cf53 0 = .ok (.iload_n 0, 1) := by decide +kernel
theorem dJ9_max_7cf53_1 : decode cJ9_max_7cf53 1 = .ok (.iload_n 1, 1) := by decide +kernel
theorem dJ9_max_7cf53_2 : decode cJ9_max_7cf53 2 = .ok (.if_icmp .lt 7, 3) := by decide +kernel
theorem dJ9_max_7cf53_5 : decode cJ9_max_7cf53 5 = .ok (.iload_n 0, 1) := by decide +kernel
theorem dJ9_max_7cf53_6 : decode cJ9_max_7cf53 6 = .ok (.goto 4, 3) := by decide +kernel
theorem dJ9_max_7cf53_9 : decode cJ9_max_7cf53 9 = .ok (.iload_n 1, 1) := by decide +kernel
theorem dJ9_max_7cf53_10 : decode cJ9_max_7cf53 10 = .ok (.ireturn, 1) := by decide +kernel
theorem dJ9_min_7cf53_0 : decode cJ9_min_7cf53 0 = .ok (.iload_n 0, 1) := by decide +kernel
theorem dJ9_min_7cf53_1 : decode cJ9_min_7cf53 1 = .ok (.iload_n 1, 1) := by decide +kernel
theorem dJ9_min_7cf53_2 : decode cJ9_min_7cf53 2 = .ok (.if_icmp .gt 7, 3) := by decide +kernel
theorem dJ9_min_7cf53_5 : decode cJ9_min_7cf53 5 = .ok (.iload_n 0, 1) := by decide +kernel
theorem dJ9_min_7cf53_6 : decode cJ9_min_7cf53 6 = .ok (.goto 4, 3) := by decide +kernel
theorem dJ9_min_7cf53_9 : decode cJ9_min_7cf53 9 = .ok (.iload_n 1, 1) := by decide +kernel
theorem dJ9_min_7cf53_10 : decode cJ9_min_7cf53 10 = .ok (.ireturn, 1) := by decide +kernel
set_option maxRecDepth 20000 in
theorem ggL_law_X11_init : GoodIn wsL_law wsX11_init := goodIn_r _ [8, 9, 10, 11, 12, 13, 14, 15, 16, 17, 18, 19, 20, 21, 22, 23, 24, 25, 26, 27, 28, 29, 30, 31, 32, 33, 34, 35, 36, 37, 38, 39, 40, 41, 42, 43, 44, 45, 46, 47, 48, 49, 50, 51, 52, 53, 54, 55, 56, 57, 58, 59, 60, 61, 62, 63, 64, 65, 66, 67, 68, 69, 70, 71, 72, 73, 74, 813, 814, 815, 816, 817, 818, 819, 751, 752, 753, 754, 755, 756, 757, 758, 759, 760, 761, 762, 820, 821, 822, 823, 824, 825, 826, 827, 828, 829, 830, 831, 832, 833, 834, 835] (by decide +kernel) (by decide +kernel)
set_option maxRecDepth 20000 in
theorem gL_law_X11_init : GoodIn wsL_law (wsX11_init) := ggL_law_X11_init
set_option maxRecDepth 20000 in
theorem ggL_law_X12_init : GoodIn wsL_law wsX12_init := goodIn_r _ [77, 78, 10, 11, 45, 79, 80, 81, 82, 83, 84, 85, 86, 87, 88, 89, 90, 91, 92, 93, 94, 95, 96, 97, 98, 99, 100, 101, 102, 103, 104, 105, 106, 107, 108, 109, 110, 111, 112, 113, 114, 115, 763, 764, 765, 766, 767, 768, 769, 770, 771, 772, 773, 774, 775, 776, 777, 778, 779, 780, 781, 782, 783, 784, 785, 786, 787, 788, 789, 790, 791, 792, 793, 794, 795, 796, 797, 798, 799, 800, 801, 802, 803, 804, 805, 806, 807, 808, 809, 810, 811, 812] (by decide +kernel) (by decide +kernel)
set_option maxRecDepth 20000 in
theorem gL_law_X12_init : GoodIn wsL_law (wsX12_init) := ggL_law_X12_init
set_option maxRecDepth 20000 in
theorem ggL_law_X11_go : GoodIn wsL_law wsX11_go := goodIn_r _ [119, 120, 121, 31, 122, 123, 2, 124, 125, 126, 127, 128, 129, 130, 131, 30, 132, 74, 133, 134, 135, 136, 137, 138, 139, 140, 141, 142, 143, 73, 144, 145, 146, 147, 148, 72, 149, 150, 151, 152, 153, 71, 154, 155, 156, 751, 752, 753, 754, 755, 756, 757, 758, 759, 760, 761, 762, 828, 829, 830, 831, 832, 833, 834, 835] (by decide +kernel) (by decide +kernel)
set_option maxRecDepth 20000 in
theorem gL_law_X11_go : GoodIn wsL_law (wsV RL 13 RX11 yX11_go wsX11_go) := goodIn_app (goodIn_of _ (by decide +kernel)) ggL_law_X11_go
set_option maxRecDepth 20000 in
theorem ggL_law_X12_go : GoodIn wsL_law wsX12_go := goodIn_r _ [160, 161, 162, 163, 164, 165, 166, 5, 167, 168, 169, 170, 171, 113, 172, 173, 174, 114, 115, 175, 176, 177, 178, 179, 180, 112, 181, 763, 764, 765, 766, 767, 768, 769, 770, 771, 772, 773, 774, 775, 776, 777, 778, 779, 780, 781, 782, 783, 784, 785, 786, 787, 788, 789, 790, 791, 792, 793, 794, 795, 796, 797, 798, 799, 800, 801, 802, 803, 804, 805, 806, 807, 808, 809, 810, 811, 812] (by decide +kernel) (by decide +kernel)
set_option maxRecDepth 20000 in
theorem gL_law_X12_go : GoodIn wsL_law (wsV RL 17 RX12 yX12_go wsX12_go) := goodIn_app (goodIn_of _ (by decide +kernel)) ggL_law_X12_go
set_option maxRecDepth 20000 in
theorem ggL_law_X11_baker : GoodIn wsL_law wsX11_baker := goodIn_r _ [185, 186, 33, 32, 187, 188, 27, 189, 190, 191, 10, 11, 192, 193, 194, 26, 195, 196, 197, 751, 752, 753, 754, 755, 756, 757, 758, 759, 760, 761, 762, 836, 837, 838, 839, 840, 841, 842, 843, 824, 825, 826, 827] (by decide +kernel) (by decide +kernel)
set_option maxRecDepth 20000 in
theorem gL_law_X11_baker : GoodIn wsL_law (wsV RL 18 RX11 yX11_baker wsX11_baker) := goodIn_app (goodIn_of _ (by decide +kernel)) ggL_law_X11_baker
set_option maxRecDepth 20000 in
theorem ggL_law_X12_baker : GoodIn wsL_law wsX12_baker := goodIn_r _ [201, 202, 101, 203, 763, 764, 765, 766, 767, 768, 769, 770, 771, 772, 773, 774, 775, 776, 777, 778, 779, 780, 781, 782, 783, 784, 785, 786, 787, 788, 789, 790, 791, 792, 793, 794, 795, 796, 797, 798, 799, 800, 801, 802, 803, 804, 805, 806, 807, 808, 809, 810, 811, 812] (by decide +kernel) (by decide +kernel)
set_option maxRecDepth 20000 in
theorem gL_law_X12_baker : GoodIn wsL_law (wsV RL 22 RX12 yX12_baker wsX12_baker) := goodIn_app (goodIn_of _ (by decide +kernel)) ggL_law_X12_baker
set_option maxRecDepth 20000 in
theorem ggL_law_X11_buy : GoodIn wsL_law wsX11_buy := goodIn_r _ [207, 208, 15, 209, 210, 211, 212, 120, 19, 213, 214, 215, 216, 217, 218, 2, 219, 186, 33, 122, 123, 124, 220, 221, 222, 14, 223, 224, 225, 226, 227, 228, 229, 230, 231, 232, 233, 234, 10, 11, 235, 236, 237, 238, 239, 240, 241, 242, 42, 243, 244, 245, 246, 18, 247, 53, 248, 54, 249, 250, 251, 252, 253, 254, 751, 752, 753, 754, 755, 756, 757, 758, 759, 760, 761, 762, 844, 845, 846, 847, 848, 849, 850, 851, 813, 814, 815, 816, 817, 818, 819, 836, 837, 838, 839, 840, 841, 842, 843, 852, 853, 854, 855, 856, 857, 858, 859, 860, 861, 862, 863, 864, 865, 866, 867, 868, 869, 870, 820, 821] (by decide +kernel) (by decide +kernel)
set_option maxRecDepth 20000 in
theorem gL_law_X11_buy : GoodIn wsL_law (wsV RL 23 RX11 yX11_buy wsX11_buy) := goodIn_app (goodIn_of _ (by decide +kernel)) ggL_law_X11_buy
set_option maxRecDepth 20000 in
theorem ggL_law_X12_buy : GoodIn wsL_law wsX12_buy := goodIn_r _ [258, 259, 260, 261, 83, 84, 262, 263, 264, 5, 265, 202, 165, 166, 167, 266, 267, 268, 269, 79, 80, 162, 81, 163, 82, 763, 764, 765, 766, 767, 768, 769, 770, 771, 772, 773, 774, 775, 776, 777, 778, 779, 780, 781, 782, 783, 784, 785, 786, 787, 788, 789, 790, 791, 792, 793, 794, 795, 796, 797, 798, 799, 800, 801, 802, 803, 804, 805, 806, 807, 808, 809, 810, 811, 812] (by decide +kernel) (by decide +kernel)
set_option maxRecDepth 20000 in
theorem gL_law_X12_buy : GoodIn wsL_law (wsV RL 27 RX12 yX12_buy wsX12_buy) := goodIn_app (goodIn_of _ (by decide +kernel)) ggL_law_X12_buy
set_option maxRecDepth 20000 in
theorem ggL_law_X11_grind : GoodIn wsL_law wsX11_grind := goodIn_r _ [273, 15, 274, 275, 276, 277, 278, 14, 279, 224, 42, 280, 281, 282, 2, 283, 34, 284, 285, 286, 287, 288, 289, 290, 291, 292, 293, 294, 44, 216, 217, 218, 219, 186, 33, 751, 752, 753, 754, 755, 756, 757, 758, 759, 760, 761, 762, 844, 845, 846, 847, 848, 849, 850, 851, 813, 814, 815, 816, 817, 818, 819, 852, 853, 854, 855, 856, 857, 858, 859, 860, 861, 862, 863, 864, 865, 866, 867, 868, 869, 870, 836, 837, 838, 839, 840, 841, 842, 843] (by decide +kernel) (by decide +kernel)
set_option maxRecDepth 20000 in
theorem gL_law_X11_grind : GoodIn wsL_law (wsV RL 28 RX11 yX11_grind wsX11_grind) := goodIn_app (goodIn_of _ (by decide +kernel)) ggL_law_X11_grind
set_option maxRecDepth 20000 in
theorem ggL_law_X12_grind : GoodIn wsL_law wsX12_grind := goodIn_r _ [298, 79, 86, 83, 89, 87, 88, 299, 300, 301, 302, 303, 5, 304, 261, 165, 166, 167, 763, 764, 765, 766, 767, 768, 769, 770, 771, 772, 773, 774, 775, 776, 777, 778, 779, 780, 781, 782, 783, 784, 785, 786, 787, 788, 789, 790, 791, 792, 793, 794, 795, 796, 797, 798, 799, 800, 801, 802, 803, 804, 805, 806, 807, 808, 809, 810, 811, 812] (by decide +kernel) (by decide +kernel)
set_option maxRecDepth 20000 in
theorem gL_law_X12_grind : GoodIn wsL_law (wsV RL 31 RX12 yX12_grind wsX12_grind) := goodIn_app (goodIn_of _ (by decide +kernel)) ggL_law_X12_grind
set_option maxRecDepth 20000 in
theorem ggL_law_X11_dish : GoodIn wsL_law wsX11_dish := goodIn_r _ [308, 34, 122, 123, 2, 124, 751, 752, 753, 754, 755, 756, 757, 758, 759, 760, 761, 762] (by decide +kernel) (by decide +kernel)
set_option maxRecDepth 20000 in
theorem gL_law_X11_dish : GoodIn wsL_law (wsV RL 32 RX11 yX11_dish wsX11_dish) := goodIn_app (goodIn_of _ (by decide +kernel)) ggL_law_X11_dish
set_option maxRecDepth 20000 in
theorem ggL_law_X12_dish : GoodIn wsL_law wsX12_dish := goodIn_r _ [312, 313, 181, 89, 165, 166, 5, 167, 763, 764, 765, 766, 767, 768, 769, 770, 771, 772, 773, 774, 775, 776, 777, 778, 779, 780, 781, 782, 783, 784, 785, 786, 787, 788, 789, 790, 791, 792, 793, 794, 795, 796, 797, 798, 799, 800, 801, 802, 803, 804, 805, 806, 807, 808, 809, 810, 811, 812] (by decide +kernel) (by decide +kernel)
set_option maxRecDepth 20000 in
theorem gL_law_X12_dish : GoodIn wsL_law (wsV RL 35 RX12 yX12_dish wsX12_dish) := goodIn_app (goodIn_of _ (by decide +kernel)) ggL_law_X12_dish
set_option maxRecDepth 20000 in
theorem ggL_law_X11_price : GoodIn wsL_law wsX11_price := goodIn_r _ [317, 19, 125, 126, 127, 2, 128, 120, 122, 123, 124, 318, 319, 320, 18, 321, 322, 155, 137, 156, 53, 54, 751, 752, 753, 754, 755, 756, 757, 758, 759, 760, 761, 762, 820, 821] (by decide +kernel) (by decide +kernel)
set_option maxRecDepth 20000 in
theorem gL_law_X11_price : GoodIn wsL_law (wsV RL 36 RX11 yX11_price wsX11_price) := goodIn_app (goodIn_of _ (by decide +kernel)) ggL_law_X11_price
set_option maxRecDepth 20000 in
theorem ggL_law_X12_price : GoodIn wsL_law wsX12_price := goodIn_r _ [326, 327, 162, 165, 166, 5, 167, 328, 329, 330, 331, 261, 79, 80, 84, 83, 763, 764, 765, 766, 767, 768, 769, 770, 771, 772, 773, 774, 775, 776, 777, 778, 779, 780, 781, 782, 783, 784, 785, 786, 787, 788, 789, 790, 791, 792, 793, 794, 795, 796, 797, 798, 799, 800, 801, 802, 803, 804, 805, 806, 807, 808, 809, 810, 811, 812] (by decide +kernel) (by decide +kernel)
set_option maxRecDepth 20000 in
theorem gL_law_X12_price : GoodIn wsL_law (wsV RL 39 RX12 yX12_price wsX12_price) := goodIn_app (goodIn_of _ (by decide +kernel)) ggL_law_X12_price
set_option maxRecDepth 20000 in
theorem ggL_law_X11_text : GoodIn wsL_law wsX11_text := goodIn_r _ [335, 23, 336, 337, 338, 339, 340, 122, 123, 2, 124, 341, 342, 343, 22, 344, 345, 346, 347, 348, 349, 10, 11, 350, 351, 352, 45, 353, 354, 355, 356, 357, 358, 359, 60, 360, 751, 752, 753, 754, 755, 756, 757, 758, 759, 760, 761, 762, 871, 872, 873, 874, 875, 876, 877, 822, 823] (by decide +kernel) (by decide +kernel)
set_option maxRecDepth 20000 in
theorem gL_law_X11_text : GoodIn wsL_law (wsV RL 40 RX11 yX11_text wsX11_text) := goodIn_app (goodIn_of _ (by decide +kernel)) ggL_law_X11_text
set_option maxRecDepth 20000 in
theorem ggL_law_X12_text : GoodIn wsL_law wsX12_text := goodIn_r _ [364, 365, 366, 367, 368, 369, 102, 103, 104, 165, 166, 5, 167, 763, 764, 765, 766, 767, 768, 769, 770, 771, 772, 773, 774, 775, 776, 777, 778, 779, 780, 781, 782, 783, 784, 785, 786, 787, 788, 789, 790, 791, 792, 793, 794, 795, 796, 797, 798, 799, 800, 801, 802, 803, 804, 805, 806, 807, 808, 809, 810, 811, 812] (by decide +kernel) (by decide +kernel)
set_option maxRecDepth 20000 in
theorem gL_law_X12_text : GoodIn wsL_law (wsV RL 44 RX12 yX12_text wsX12_text) := goodIn_app (goodIn_of _ (by decide +kernel)) ggL_law_X12_text
set_option maxRecDepth 20000 in
theorem ggL_law_X11_step : GoodIn wsL_law wsX11_step := goodIn_r _ [373, 23, 374, 375, 376, 377, 22, 378, 345, 60, 122, 123, 2, 124, 379, 380, 381, 338, 382, 383, 384, 385, 386, 387, 354, 355, 388, 751, 752, 753, 754, 755, 756, 757, 758, 759, 760, 761, 762, 871, 872, 873, 874, 875, 876, 877, 822, 823] (by decide +kernel) (by decide +kernel)
set_option maxRecDepth 20000 in
theorem gL_law_X11_step : GoodIn wsL_law (wsV RL 45 RX11 yX11_step wsX11_step) := goodIn_app (goodIn_of _ (by decide +kernel)) ggL_law_X11_step
set_option maxRecDepth 20000 in
theorem ggL_law_X12_step : GoodIn wsL_law wsX12_step := goodIn_r _ [392, 369, 260, 107, 105, 106, 165, 166, 5, 167, 763, 764, 765, 766, 767, 768, 769, 770, 771, 772, 773, 774, 775, 776, 777, 778, 779, 780, 781, 782, 783, 784, 785, 786, 787, 788, 789, 790, 791, 792, 793, 794, 795, 796, 797, 798, 799, 800, 801, 802, 803, 804, 805, 806, 807, 808, 809, 810, 811, 812] (by decide +kernel) (by decide +kernel)
set_option maxRecDepth 20000 in
theorem gL_law_X12_step : GoodIn wsL_law (wsV RL 48 RX12 yX12_step wsX12_step) := goodIn_app (goodIn_of _ (by decide +kernel)) ggL_law_X12_step
set_option maxRecDepth 20000 in
theorem ggL_law_X11_inForce : GoodIn wsL_law wsX11_inForce := goodIn_r _ [396, 23, 340, 122, 123, 2, 124, 397, 398, 399, 22, 400, 345, 60, 401, 751, 752, 753, 754, 755, 756, 757, 758, 759, 760, 761, 762, 871, 872, 873, 874, 875, 876, 877, 822, 823] (by decide +kernel) (by decide +kernel)
set_option maxRecDepth 20000 in
theorem gL_law_X11_inForce : GoodIn wsL_law (wsV RL 49 RX11 yX11_inForce wsX11_inForce) := goodIn_app (goodIn_of _ (by decide +kernel)) ggL_law_X11_inForce
set_option maxRecDepth 20000 in
theorem ggL_law_X12_inForce : GoodIn wsL_law wsX12_inForce := goodIn_r _ [405, 365, 165, 166, 5, 167, 406, 407, 408, 409, 369, 102, 763, 764, 765, 766, 767, 768, 769, 770, 771, 772, 773, 774, 775, 776, 777, 778, 779, 780, 781, 782, 783, 784, 785, 786, 787, 788, 789, 790, 791, 792, 793, 794, 795, 796, 797, 798, 799, 800, 801, 802, 803, 804, 805, 806, 807, 808, 809, 810, 811, 812] (by decide +kernel) (by decide +kernel)
set_option maxRecDepth 20000 in
theorem gL_law_X12_inForce : GoodIn wsL_law (wsV RL 52 RX12 yX12_inForce wsX12_inForce) := goodIn_app (goodIn_of _ (by decide +kernel)) ggL_law_X12_inForce
set_option maxRecDepth 20000 in
theorem ggL_law_X11_due : GoodIn wsL_law wsX11_due := goodIn_r _ [413, 23, 125, 126, 127, 2, 128, 120, 122, 123, 124, 397, 398, 399, 22, 400, 345, 60, 401, 414, 415, 416, 417, 19, 318, 319, 320, 18, 321, 322, 155, 137, 156, 53, 54, 418, 419, 420, 338, 421, 353, 422, 423, 424, 425, 383, 354, 355, 751, 752, 753, 754, 755, 756, 757, 758, 759, 760, 761, 762, 822, 823, 871, 872, 873, 874, 875, 876, 877, 820, 821] (by decide +kernel) (by decide +kernel)
set_option maxRecDepth 20000 in
theorem gL_law_X11_due : GoodIn wsL_law (wsV RL 53 RX11 yX11_due wsX11_due) := goodIn_app (goodIn_of _ (by decide +kernel)) ggL_law_X11_due
set_option maxRecDepth 20000 in
theorem ggL_law_X12_due : GoodIn wsL_law wsX12_due := goodIn_r _ [429, 162, 313, 165, 166, 5, 167, 430, 431, 432, 433, 107, 105, 106, 103, 406, 407, 408, 409, 369, 102, 328, 329, 330, 331, 261, 79, 80, 84, 83, 763, 764, 765, 766, 767, 768, 769, 770, 771, 772, 773, 774, 775, 776, 777, 778, 779, 780, 781, 782, 783, 784, 785, 786, 787, 788, 789, 790, 791, 792, 793, 794, 795, 796, 797, 798, 799, 800, 801, 802, 803, 804, 805, 806, 807, 808, 809, 810, 811, 812] (by decide +kernel) (by decide +kernel)
set_option maxRecDepth 20000 in
theorem gL_law_X12_due : GoodIn wsL_law (wsV RL 57 RX12 yX12_due wsX12_due) := goodIn_app (goodIn_of _ (by decide +kernel)) ggL_law_X12_due
set_option maxRecDepth 20000 in
theorem ggL_law_X11_bake : GoodIn wsL_law wsX11_bake := goodIn_r _ [437, 438, 15, 288, 439, 440, 441, 212, 120, 442, 443, 444, 445, 216, 217, 218, 2, 219, 186, 33, 122, 123, 124, 125, 126, 127, 128, 220, 221, 222, 14, 223, 224, 446, 447, 448, 449, 450, 451, 452, 231, 232, 233, 234, 10, 11, 235, 236, 237, 238, 239, 240, 241, 242, 42, 243, 453, 454, 455, 456, 457, 458, 459, 460, 294, 44, 461, 287, 462, 463, 464, 465, 155, 137, 156, 466, 467, 468, 469, 46, 470, 215, 47, 471, 836, 837, 838, 839, 840, 841, 842, 843, 751, 752, 753, 754, 755, 756, 757, 758, 759, 760, 761, 762, 852, 853, 854, 855, 856, 857, 858, 859, 860, 813, 814, 815, 816, 817, 818, 819, 844, 845, 846, 847, 848, 849, 850, 851, 861, 862, 863, 864, 865, 866, 867, 868, 869, 870] (by decide +kernel) (by decide +kernel)
set_option maxRecDepth 20000 in
theorem gL_law_X11_bake : GoodIn wsL_law (wsV RL 58 RX11 yX11_bake wsX11_bake) := goodIn_app (goodIn_of _ (by decide +kernel)) ggL_law_X11_bake
set_option maxRecDepth 20000 in
theorem ggL_law_X12_bake : GoodIn wsL_law wsX12_bake := goodIn_r _ [475, 313, 476, 477, 162, 100, 261, 90, 91, 92, 93, 478, 299, 88, 82, 87, 95, 96, 94, 101, 262, 263, 264, 5, 265, 202, 165, 166, 167, 479, 480, 481, 482, 79, 266, 267, 268, 269, 80, 81, 163, 763, 764, 765, 766, 767, 768, 769, 770, 771, 772, 773, 774, 775, 776, 777, 778, 779, 780, 781, 782, 783, 784, 785, 786, 787, 788, 789, 790, 791, 792, 793, 794, 795, 796, 797, 798, 799, 800, 801, 802, 803, 804, 805, 806, 807, 808, 809, 810, 811, 812] (by decide +kernel) (by decide +kernel)
set_option maxRecDepth 20000 in
theorem gL_law_X12_bake : GoodIn wsL_law (wsV RL 62 RX12 yX12_bake wsX12_bake) := goodIn_app (goodIn_of _ (by decide +kernel)) ggL_law_X12_bake
set_option maxRecDepth 20000 in
theorem ggL_law_X11_search : GoodIn wsL_law wsX11_search := goodIn_r _ [486, 186, 15, 27, 487, 488, 489, 212, 120, 490, 491, 492, 493, 220, 221, 222, 14, 223, 224, 494, 495, 496, 26, 497, 197, 196, 498, 155, 137, 156, 65, 499, 500, 501, 502, 66, 503, 504, 505, 216, 217, 218, 2, 219, 33, 506, 507, 508, 509, 510, 511, 512, 513, 514, 231, 232, 233, 234, 10, 11, 235, 236, 237, 238, 239, 240, 241, 242, 42, 243, 515, 516, 517, 518, 443, 23, 519, 444, 445, 520, 521, 522, 523, 524, 35, 525, 526, 527, 528, 529, 530, 253, 254, 397, 398, 399, 22, 400, 345, 60, 401, 531, 532, 533, 534, 136, 138, 414, 415, 416, 417, 19, 318, 319, 320, 18, 321, 322, 53, 54, 418, 419, 420, 338, 421, 353, 422, 423, 424, 425, 383, 354, 355, 535, 536, 537, 538, 539, 36, 540, 541, 542, 438, 125, 126, 127, 128, 751, 752, 753, 754, 755, 756, 757, 758, 759, 760, 761, 762, 861, 862, 863, 864, 865, 866, 867, 868, 869, 870, 813, 814, 815, 816, 817, 818, 819, 836, 837, 838, 839, 840, 841, 842, 843, 852, 853, 854, 855, 856, 857, 858, 859, 860, 844, 845, 846, 847, 848, 849, 850, 851, 824, 825, 826, 827, 871, 872, 873, 874, 875, 876, 877, 822, 823, 820, 821] (by decide +kernel) (by decide +kernel)
set_option maxRecDepth 20000 in
theorem gL_law_X11_search : GoodIn wsL_law (wsV RL 63 RX11 yX11_search wsX11_search) := goodIn_app (goodIn_of _ (by decide +kernel)) ggL_law_X11_search
set_option maxRecDepth 20000 in
theorem ggL_law_X12_search : GoodIn wsL_law wsX12_search := goodIn_r _ [546, 202, 261, 108, 547, 203, 101, 97, 162, 80, 163, 81, 92, 110, 90, 104, 98, 111, 99, 100, 548, 549, 550, 5, 551, 109, 552, 553, 554, 406, 407, 408, 409, 369, 102, 555, 556, 557, 430, 431, 432, 433, 107, 105, 106, 103, 328, 329, 330, 331, 79, 84, 83, 266, 267, 268, 269, 82, 763, 764, 765, 766, 767, 768, 769, 770, 771, 772, 773, 774, 775, 776, 777, 778, 779, 780, 781, 782, 783, 784, 785, 786, 787, 788, 789, 790, 791, 792, 793, 794, 795, 796, 797, 798, 799, 800, 801, 802, 803, 804, 805, 806, 807, 808, 809, 810, 811, 812] (by decide +kernel) (by decide +kernel)
set_option maxRecDepth 20000 in
theorem gL_law_X12_search : GoodIn wsL_law (wsV RL 66 RX12 yX12_search wsX12_search) := goodIn_app (goodIn_of _ (by decide +kernel)) ggL_law_X12_search
set_option maxRecDepth 20000 in
theorem ggL_law_X11_turn : GoodIn wsL_law wsX11_turn := goodIn_r _ [561, 186, 27, 494, 495, 496, 26, 497, 197, 196, 498, 155, 137, 156, 65, 499, 500, 501, 502, 66, 503, 504, 505, 751, 752, 753, 754, 755, 756, 757, 758, 759, 760, 761, 762, 824, 825, 826, 827] (by decide +kernel) (by decide +kernel)
set_option maxRecDepth 20000 in
theorem gL_law_X11_turn : GoodIn wsL_law (wsV RL 67 RX11 yX11_turn wsX11_turn) := goodIn_app (goodIn_of _ (by decide +kernel)) ggL_law_X11_turn
set_option maxRecDepth 20000 in
theorem ggL_law_X12_turn : GoodIn wsL_law wsX12_turn := goodIn_r _ [565, 202, 108, 547, 203, 548, 549, 550, 5, 551, 109, 552, 553, 554, 763, 764, 765, 766, 767, 768, 769, 770, 771, 772, 773, 774, 775, 776, 777, 778, 779, 780, 781, 782, 783, 784, 785, 786, 787, 788, 789, 790, 791, 792, 793, 794, 795, 796, 797, 798, 799, 800, 801, 802, 803, 804, 805, 806, 807, 808, 809, 810, 811, 812] (by decide +kernel) (by decide +kernel)
set_option maxRecDepth 20000 in
theorem gL_law_X12_turn : GoodIn wsL_law (wsV RL 70 RX12 yX12_turn wsX12_turn) := goodIn_app (goodIn_of _ (by decide +kernel)) ggL_law_X12_turn
set_option maxRecDepth 20000 in
theorem ggL_law_X11_rules : GoodIn wsL_law wsX11_rules := goodIn_r _ [569, 35, 36, 122, 123, 2, 124, 751, 752, 753, 754, 755, 756, 757, 758, 759, 760, 761, 762] (by decide +kernel) (by decide +kernel)
set_option maxRecDepth 20000 in
theorem gL_law_X11_rules : GoodIn wsL_law (wsV RL 71 RX11 yX11_rules wsX11_rules) := goodIn_app (goodIn_of _ (by decide +kernel)) ggL_law_X11_rules
set_option maxRecDepth 20000 in
theorem ggL_law_X12_rules : GoodIn wsL_law wsX12_rules := goodIn_r _ [573, 368, 260, 110, 111, 165, 166, 5, 167, 763, 764, 765, 766, 767, 768, 769, 770, 771, 772, 773, 774, 775, 776, 777, 778, 779, 780, 781, 782, 783, 784, 785, 786, 787, 788, 789, 790, 791, 792, 793, 794, 795, 796, 797, 798, 799, 800, 801, 802, 803, 804, 805, 806, 807, 808, 809, 810, 811, 812] (by decide +kernel) (by decide +kernel)
set_option maxRecDepth 20000 in
theorem gL_law_X12_rules : GoodIn wsL_law (wsV RL 74 RX12 yX12_rules wsX12_rules) := goodIn_app (goodIn_of _ (by decide +kernel)) ggL_law_X12_rules
set_option maxRecDepth 20000 in
theorem ggL_law_X11_record : GoodIn wsL_law wsX11_record := goodIn_r _ [577, 15, 578, 579, 580, 276, 277, 278, 14, 279, 224, 42, 581, 582, 583, 253, 232, 254, 237, 584, 585, 751, 752, 753, 754, 755, 756, 757, 758, 759, 760, 761, 762, 852, 853, 854, 855, 856, 857, 858, 859, 860, 844, 845, 846, 847, 848, 849, 850, 851, 861, 862, 863, 864, 865, 866, 867, 868, 869, 870, 813, 814, 815, 816, 817, 818, 819] (by decide +kernel) (by decide +kernel)
set_option maxRecDepth 20000 in
theorem gL_law_X11_record : GoodIn wsL_law (wsV RL 75 RX11 yX11_record wsX11_record) := goodIn_app (goodIn_of _ (by decide +kernel)) ggL_law_X11_record
set_option maxRecDepth 20000 in
theorem ggL_law_X12_record : GoodIn wsL_law wsX12_record := goodIn_r _ [589, 79, 80, 81, 82, 301, 302, 303, 5, 304, 261, 165, 166, 167, 763, 764, 765, 766, 767, 768, 769, 770, 771, 772, 773, 774, 775, 776, 777, 778, 779, 780, 781, 782, 783, 784, 785, 786, 787, 788, 789, 790, 791, 792, 793, 794, 795, 796, 797, 798, 799, 800, 801, 802, 803, 804, 805, 806, 807, 808, 809, 810, 811, 812] (by decide +kernel) (by decide +kernel)
set_option maxRecDepth 20000 in
theorem gL_law_X12_record : GoodIn wsL_law (wsV RL 78 RX12 yX12_record wsX12_record) := goodIn_app (goodIn_of _ (by decide +kernel)) ggL_law_X12_record
set_option maxRecDepth 20000 in
theorem ggL_law_X11_lot : GoodIn wsL_law wsX11_lot := goodIn_r _ [593, 15, 274, 276, 277, 278, 14, 279, 224, 42, 122, 123, 2, 124, 594, 595, 596, 211, 597, 228, 229, 598, 599, 751, 752, 753, 754, 755, 756, 757, 758, 759, 760, 761, 762, 813, 814, 815, 816, 817, 818, 819, 844, 845, 846, 847, 848, 849, 850, 851] (by decide +kernel) (by decide +kernel)
set_option maxRecDepth 20000 in
theorem gL_law_X11_lot : GoodIn wsL_law (wsV RL 79 RX11 yX11_lot wsX11_lot) := goodIn_app (goodIn_of _ (by decide +kernel)) ggL_law_X11_lot
set_option maxRecDepth 20000 in
theorem ggL_law_X12_lot : GoodIn wsL_law wsX12_lot := goodIn_r _ [603, 604, 79, 83, 84, 86, 87, 301, 302, 303, 5, 304, 261, 165, 166, 167, 763, 764, 765, 766, 767, 768, 769, 770, 771, 772, 773, 774, 775, 776, 777, 778, 779, 780, 781, 782, 783, 784, 785, 786, 787, 788, 789, 790, 791, 792, 793, 794, 795, 796, 797, 798, 799, 800, 801, 802, 803, 804, 805, 806, 807, 808, 809, 810, 811, 812] (by decide +kernel) (by decide +kernel)
set_option maxRecDepth 20000 in
theorem gL_law_X12_lot : GoodIn wsL_law (wsV RL 82 RX12 yX12_lot wsX12_lot) := goodIn_app (goodIn_of _ (by decide +kernel)) ggL_law_X12_lot
set_option maxRecDepth 20000 in
theorem ggL_law_X11_batch : GoodIn wsL_law wsX11_batch := goodIn_r _ [608, 15, 609, 276, 277, 278, 14, 279, 224, 42, 610, 611, 612, 441, 613, 449, 450, 451, 614, 615, 616, 617, 618, 471, 460, 459, 46, 47, 751, 752, 753, 754, 755, 756, 757, 758, 759, 760, 761, 762, 813, 814, 815, 816, 817, 818, 819, 852, 853, 854, 855, 856, 857, 858, 859, 860] (by decide +kernel) (by decide +kernel)
set_option maxRecDepth 20000 in
theorem gL_law_X11_batch : GoodIn wsL_law (wsV RL 83 RX11 yX11_batch wsX11_batch) := goodIn_app (goodIn_of _ (by decide +kernel)) ggL_law_X11_batch
set_option maxRecDepth 20000 in
theorem ggL_law_X12_batch : GoodIn wsL_law wsX12_batch := goodIn_r _ [622, 623, 624, 79, 90, 91, 92, 94, 95, 93, 96, 301, 302, 303, 5, 304, 261, 165, 166, 167, 763, 764, 765, 766, 767, 768, 769, 770, 771, 772, 773, 774, 775, 776, 777, 778, 779, 780, 781, 782, 783, 784, 785, 786, 787, 788, 789, 790, 791, 792, 793, 794, 795, 796, 797, 798, 799, 800, 801, 802, 803, 804, 805, 806, 807, 808, 809, 810, 811, 812] (by decide +kernel) (by decide +kernel)
set_option maxRecDepth 20000 in
theorem gL_law_X12_batch : GoodIn wsL_law (wsV RL 86 RX12 yX12_batch wsX12_batch) := goodIn_app (goodIn_of _ (by decide +kernel)) ggL_law_X12_batch
set_option maxRecDepth 20000 in
theorem ggL_law_X11_found : GoodIn wsL_law wsX11_found := goodIn_r _ [628, 15, 629, 276, 277, 278, 14, 279, 224, 42, 122, 123, 2, 124, 630, 631, 632, 489, 633, 513, 634, 635, 636, 637, 638, 751, 752, 753, 754, 755, 756, 757, 758, 759, 760, 761, 762, 813, 814, 815, 816, 817, 818, 819, 861, 862, 863, 864, 865, 866, 867, 868, 869, 870] (by decide +kernel) (by decide +kernel)
set_option maxRecDepth 20000 in
theorem gL_law_X11_found : GoodIn wsL_law (wsV RL 87 RX11 yX11_found wsX11_found) := goodIn_app (goodIn_of _ (by decide +kernel)) ggL_law_X11_found
set_option maxRecDepth 20000 in
theorem ggL_law_X12_found : GoodIn wsL_law wsX12_found := goodIn_r _ [642, 368, 79, 97, 301, 302, 303, 5, 304, 261, 165, 166, 167, 763, 764, 765, 766, 767, 768, 769, 770, 771, 772, 773, 774, 775, 776, 777, 778, 779, 780, 781, 782, 783, 784, 785, 786, 787, 788, 789, 790, 791, 792, 793, 794, 795, 796, 797, 798, 799, 800, 801, 802, 803, 804, 805, 806, 807, 808, 809, 810, 811, 812] (by decide +kernel) (by decide +kernel)
set_option maxRecDepth 20000 in
theorem gL_law_X12_found : GoodIn wsL_law (wsV RL 90 RX12 yX12_found wsX12_found) := goodIn_app (goodIn_of _ (by decide +kernel)) ggL_law_X12_found
set_option maxRecDepth 20000 in
theorem ggL_law_X11_about : GoodIn wsL_law wsX11_about := goodIn_r _ [646, 216, 217, 218, 2, 219, 186, 33, 647, 648, 649, 188, 650, 651, 652, 653, 654, 655, 656, 657, 658, 659, 445, 751, 752, 753, 754, 755, 756, 757, 758, 759, 760, 761, 762, 836, 837, 838, 839, 840, 841, 842, 843, 852, 853, 854, 855, 856, 857, 858, 859, 860, 844, 845, 846, 847, 848, 849, 850, 851, 861, 862, 863, 864, 865, 866, 867, 868, 869, 870] (by decide +kernel) (by decide +kernel)
set_option maxRecDepth 20000 in
theorem gL_law_X11_about : GoodIn wsL_law (wsV RL 91 RX11 yX11_about wsX11_about) := goodIn_app (goodIn_of _ (by decide +kernel)) ggL_law_X11_about
set_option maxRecDepth 20000 in
theorem ggL_law_X12_about : GoodIn wsL_law wsX12_about := goodIn_r _ [663, 98, 99, 100, 101, 262, 263, 264, 5, 265, 202, 165, 166, 167, 479, 480, 481, 482, 261, 79, 82, 87, 664, 665, 666, 667, 763, 764, 765, 766, 767, 768, 769, 770, 771, 772, 773, 774, 775, 776, 777, 778, 779, 780, 781, 782, 783, 784, 785, 786, 787, 788, 789, 790, 791, 792, 793, 794, 795, 796, 797, 798, 799, 800, 801, 802, 803, 804, 805, 806, 807, 808, 809, 810, 811, 812] (by decide +kernel) (by decide +kernel)
set_option maxRecDepth 20000 in
theorem gL_law_X12_about : GoodIn wsL_law (wsV RL 94 RX12 yX12_about wsX12_about) := goodIn_app (goodIn_of _ (by decide +kernel)) ggL_law_X12_about
set_option maxRecDepth 20000 in
theorem ggL_law_X11_store : GoodIn wsL_law wsX11_store := goodIn_r _ [671, 672, 31, 673, 674, 122, 123, 2, 124, 751, 752, 753, 754, 755, 756, 757, 758, 759, 760, 761, 762, 828, 829, 830, 831, 832, 833, 834, 835] (by decide +kernel) (by decide +kernel)
set_option maxRecDepth 20000 in
theorem gL_law_X11_store : GoodIn wsL_law (wsV RL 95 RX11 yX11_store wsX11_store) := goodIn_app (goodIn_of _ (by decide +kernel)) ggL_law_X11_store
set_option maxRecDepth 20000 in
theorem ggL_law_X12_store : GoodIn wsL_law wsX12_store := goodIn_r _ [678, 679, 173, 175, 165, 166, 5, 167, 763, 764, 765, 766, 767, 768, 769, 770, 771, 772, 773, 774, 775, 776, 777, 778, 779, 780, 781, 782, 783, 784, 785, 786, 787, 788, 789, 790, 791, 792, 793, 794, 795, 796, 797, 798, 799, 800, 801, 802, 803, 804, 805, 806, 807, 808, 809, 810, 811, 812] (by decide +kernel) (by decide +kernel)
set_option maxRecDepth 20000 in
theorem gL_law_X12_store : GoodIn wsL_law (wsV RL 98 RX12 yX12_store wsX12_store) := goodIn_app (goodIn_of _ (by decide +kernel)) ggL_law_X12_store
set_option maxRecDepth 20000 in
theorem ggL_law_X11_mouths : GoodIn wsL_law wsX11_mouths := goodIn_r _ [683, 31, 684, 685, 122, 123, 2, 124, 751, 752, 753, 754, 755, 756, 757, 758, 759, 760, 761, 762, 828, 829, 830, 831, 832, 833, 834, 835] (by decide +kernel) (by decide +kernel)
set_option maxRecDepth 20000 in
theorem gL_law_X11_mouths : GoodIn wsL_law (wsV RL 99 RX11 yX11_mouths wsX11_mouths) := goodIn_app (goodIn_of _ (by decide +kernel)) ggL_law_X11_mouths
set_option maxRecDepth 20000 in
theorem ggL_law_X12_mouths : GoodIn wsL_law wsX12_mouths := goodIn_r _ [689, 690, 260, 180, 112, 165, 166, 5, 167, 763, 764, 765, 766, 767, 768, 769, 770, 771, 772, 773, 774, 775, 776, 777, 778, 779, 780, 781, 782, 783, 784, 785, 786, 787, 788, 789, 790, 791, 792, 793, 794, 795, 796, 797, 798, 799, 800, 801, 802, 803, 804, 805, 806, 807, 808, 809, 810, 811, 812] (by decide +kernel) (by decide +kernel)
set_option maxRecDepth 20000 in
theorem gL_law_X12_mouths : GoodIn wsL_law (wsV RL 102 RX12 yX12_mouths wsX12_mouths) := goodIn_app (goodIn_of _ (by decide +kernel)) ggL_law_X12_mouths
set_option maxRecDepth 20000 in
theorem ggL_law_X11_ration : GoodIn wsL_law wsX11_ration := goodIn_r _ [694, 31, 695, 122, 123, 2, 124, 751, 752, 753, 754, 755, 756, 757, 758, 759, 760, 761, 762, 828, 829, 830, 831, 832, 833, 834, 835] (by decide +kernel) (by decide +kernel)
set_option maxRecDepth 20000 in
theorem gL_law_X11_ration : GoodIn wsL_law (wsV RL 103 RX11 yX11_ration wsX11_ration) := goodIn_app (goodIn_of _ (by decide +kernel)) ggL_law_X11_ration
set_option maxRecDepth 20000 in
theorem ggL_law_X12_ration : GoodIn wsL_law wsX12_ration := goodIn_r _ [699, 181, 113, 165, 166, 5, 167, 763, 764, 765, 766, 767, 768, 769, 770, 771, 772, 773, 774, 775, 776, 777, 778, 779, 780, 781, 782, 783, 784, 785, 786, 787, 788, 789, 790, 791, 792, 793, 794, 795, 796, 797, 798, 799, 800, 801, 802, 803, 804, 805, 806, 807, 808, 809, 810, 811, 812] (by decide +kernel) (by decide +kernel)
set_option maxRecDepth 20000 in
theorem gL_law_X12_ration : GoodIn wsL_law (wsV RL 106 RX12 yX12_ration wsX12_ration) := goodIn_app (goodIn_of _ (by decide +kernel)) ggL_law_X12_ration
set_option maxRecDepth 20000 in
theorem ggL_law_X11_harvest : GoodIn wsL_law wsX11_harvest := goodIn_r _ [703, 672, 31, 704, 122, 123, 2, 124, 125, 126, 127, 128, 120, 705, 706, 707, 30, 708, 71, 72, 148, 751, 752, 753, 754, 755, 756, 757, 758, 759, 760, 761, 762, 828, 829, 830, 831, 832, 833, 834, 835] (by decide +kernel) (by decide +kernel)
set_option maxRecDepth 20000 in
theorem gL_law_X11_harvest : GoodIn wsL_law (wsV RL 107 RX11 yX11_harvest wsX11_harvest) := goodIn_app (goodIn_of _ (by decide +kernel)) ggL_law_X11_harvest
set_option maxRecDepth 20000 in
theorem ggL_law_X12_harvest : GoodIn wsL_law wsX12_harvest := goodIn_r _ [712, 365, 679, 174, 162, 114, 115, 165, 166, 5, 167, 763, 764, 765, 766, 767, 768, 769, 770, 771, 772, 773, 774, 775, 776, 777, 778, 779, 780, 781, 782, 783, 784, 785, 786, 787, 788, 789, 790, 791, 792, 793, 794, 795, 796, 797, 798, 799, 800, 801, 802, 803, 804, 805, 806, 807, 808, 809, 810, 811, 812] (by decide +kernel) (by decide +kernel)
set_option maxRecDepth 20000 in
theorem gL_law_X12_harvest : GoodIn wsL_law (wsV RL 110 RX12 yX12_harvest wsX12_harvest) := goodIn_app (goodIn_of _ (by decide +kernel)) ggL_law_X12_harvest
set_option maxRecDepth 20000 in
theorem ggL_law_X11_foretell : GoodIn wsL_law wsX11_foretell := goodIn_r _ [716, 31, 122, 123, 2, 124, 125, 126, 127, 128, 120, 717, 718, 719, 30, 720, 133, 139, 140, 141, 142, 143, 73, 149, 150, 151, 152, 153, 71, 154, 155, 137, 156, 751, 752, 753, 754, 755, 756, 757, 758, 759, 760, 761, 762, 828, 829, 830, 831, 832, 833, 834, 835] (by decide +kernel) (by decide +kernel)
set_option maxRecDepth 20000 in
theorem gL_law_X11_foretell : GoodIn wsL_law (wsV RL 111 RX11 yX11_foretell wsX11_foretell) := goodIn_app (goodIn_of _ (by decide +kernel)) ggL_law_X11_foretell
set_option maxRecDepth 20000 in
theorem ggL_law_X12_foretell : GoodIn wsL_law wsX12_foretell := goodIn_r _ [724, 181, 165, 166, 5, 167, 725, 726, 727, 728, 173, 162, 174, 114, 115, 175, 176, 177, 178, 179, 180, 112, 763, 764, 765, 766, 767, 768, 769, 770, 771, 772, 773, 774, 775, 776, 777, 778, 779, 780, 781, 782, 783, 784, 785, 786, 787, 788, 789, 790, 791, 792, 793, 794, 795, 796, 797, 798, 799, 800, 801, 802, 803, 804, 805, 806, 807, 808, 809, 810, 811, 812] (by decide +kernel) (by decide +kernel)
set_option maxRecDepth 20000 in
theorem gL_law_X12_foretell : GoodIn wsL_law (wsV RL 114 RX12 yX12_foretell wsX12_foretell) := goodIn_app (goodIn_of _ (by decide +kernel)) ggL_law_X12_foretell
set_option maxRecDepth 20000 in
theorem ggL_law_X11_order : GoodIn wsL_law wsX11_order := goodIn_r _ [732, 31, 125, 126, 127, 2, 128, 120, 122, 123, 124, 733, 734, 735, 30, 736, 737, 718, 719, 720, 133, 139, 140, 141, 142, 143, 73, 149, 150, 151, 152, 153, 71, 154, 155, 137, 156, 751, 752, 753, 754, 755, 756, 757, 758, 759, 760, 761, 762, 828, 829, 830, 831, 832, 833, 834, 835] (by decide +kernel) (by decide +kernel)
set_option maxRecDepth 20000 in
theorem gL_law_X11_order : GoodIn wsL_law (wsV RL 115 RX11 yX11_order wsX11_order) := goodIn_app (goodIn_of _ (by decide +kernel)) ggL_law_X11_order
set_option maxRecDepth 20000 in
theorem ggL_law_X12_order : GoodIn wsL_law wsX12_order := goodIn_r _ [741, 162, 365, 165, 166, 5, 167, 725, 726, 727, 728, 173, 174, 114, 115, 175, 176, 177, 178, 179, 180, 112, 181, 763, 764, 765, 766, 767, 768, 769, 770, 771, 772, 773, 774, 775, 776, 777, 778, 779, 780, 781, 782, 783, 784, 785, 786, 787, 788, 789, 790, 791, 792, 793, 794, 795, 796, 797, 798, 799, 800, 801, 802, 803, 804, 805, 806, 807, 808, 809, 810, 811, 812] (by decide +kernel) (by decide +kernel)
set_option maxRecDepth 20000 in
theorem gL_law_X12_order : GoodIn wsL_law (wsV RL 118 RX12 yX12_order wsX12_order) := goodIn_app (goodIn_of _ (by decide +kernel)) ggL_law_X12_order
set_option maxRecDepth 20000 in
theorem ggL_law_X11_told : GoodIn wsL_law wsX11_told := goodIn_r _ [745, 120, 186, 23, 339, 15, 212, 289, 31, 673, 746, 695, 704, 125, 126, 127, 2, 128, 751, 752, 753, 754, 755, 756, 757, 758, 759, 760, 761, 762, 822, 823, 813, 814, 815, 816, 817, 818, 819, 828, 829, 830, 831, 832, 833, 834, 835] (by decide +kernel) (by decide +kernel)
set_option maxRecDepth 20000 in
theorem gL_law_X11_told : GoodIn wsL_law (wsV RL 119 RX11 yX11_told wsX11_told) := goodIn_app (goodIn_of _ (by decide +kernel)) ggL_law_X11_told
set_option maxRecDepth 20000 in
theorem ggL_law_X12_told : GoodIn wsL_law wsX12_told := goodIn_r _ [750, 162, 163, 202, 369, 261, 300, 173, 172, 113, 174, 763, 764, 765, 766, 767, 768, 769, 770, 771, 772, 773, 774, 775, 776, 777, 778, 779, 780, 781, 782, 783, 784, 785, 786, 787, 788, 789, 790, 791, 792, 793, 794, 795, 796, 797, 798, 799, 800, 801, 802, 803, 804, 805, 806, 807, 808, 809, 810, 811, 812] (by decide +kernel) (by decide +kernel)
set_option maxRecDepth 20000 in
theorem gL_law_X12_told : GoodIn wsL_law (wsV RL 122 RX12 yX12_told wsX12_told) := goodIn_app (goodIn_of _ (by decide +kernel)) ggL_law_X12_told
theorem dL_law_0 : decode cL_law 0 = .ok (.new 7, 3) := by decide +kernel
theorem dL_law_3 : decode cL_law 3 = .ok (.dup, 1) := by decide +kernel
theorem dL_law_4 : decode cL_law 4 = .ok (.invokespecial 9, 3) := by decide +kernel
theorem dL_law_7 : decode cL_law 7 = .ok (.astore_n 1, 1) := by decide +kernel
theorem dL_law_8 : decode cL_law 8 = .ok (.new 10, 3) := by decide +kernel
theorem dL_law_11 : decode cL_law 11 = .ok (.dup, 1) := by decide +kernel
theorem dL_law_12 : decode cL_law 12 = .ok (.invokespecial 12, 3) := by decide +kernel
theorem dL_law_15 : decode cL_law 15 = .ok (.astore_n 2, 1) := by decide +kernel
theorem dL_law_16 : decode cL_law 16 = .ok (.iconst 0, 1) := by decide +kernel
theorem dL_law_17 : decode cL_law 17 = .ok (.istore_n 3, 1) := by decide +kernel
theorem dL_law_18 : decode cL_law 18 = .ok (.iload_n 3, 1) := by decide +kernel
theorem dL_law_19 : decode cL_law 19 = .ok (.aload_n 0, 1) := by decide +kernel
theorem dL_law_20 : decode cL_law 20 = .ok (.arraylength, 1) := by decide +kernel
theorem dL_law_21 : decode cL_law 21 = .ok (.bipush 6, 2) := by decide +kernel
theorem dL_law_23 : decode cL_law 23 = .ok (.isub, 1) := by decide +kernel
theorem dL_law_24 : decode cL_law 24 = .ok (.if_icmp .gt 902, 3) := by decide +kernel
theorem dL_law_27 : decode cL_law 27 = .ok (.aload_n 0, 1) := by decide +kernel
theorem dL_law_28 : decode cL_law 28 = .ok (.iload_n 3, 1) := by decide +kernel
theorem dL_law_29 : decode cL_law 29 = .ok (.iaload, 1) := by decide +kernel
theorem dL_law_30 : decode cL_law 30 = .ok (.bipush 31, 2) := by decide +kernel
theorem dL_law_32 : decode cL_law 32 = .ok (.iand, 1) := by decide +kernel
theorem dL_law_33 : decode cL_law 33 = .ok (.tableswitch 887 0 25 #[119, 142, 155, 198, 221, 244, 267, 330, 373, 396, 429, 482, 495, 508, 541, 574, 607, 640, 673, 706, 729, 762, 785, 818, 841, 864], 119) := by decide +kernel
theorem dL_law_152 : decode cL_law 152 = .ok (.aload_n 1, 1) := by decide +kernel
theorem dL_law_153 : decode cL_law 153 = .ok (.aload_n 0, 1) := by decide +kernel
theorem dL_law_154 : decode cL_law 154 = .ok (.iload_n 3, 1) := by decide +kernel
theorem dL_law_155 : decode cL_law 155 = .ok (.iconst 1, 1) := by decide +kernel
theorem dL_law_156 : decode cL_law 156 = .ok (.iadd, 1) := by decide +kernel
theorem dL_law_157 : decode cL_law 157 = .ok (.iaload, 1) := by decide +kernel
theorem dL_law_158 : decode cL_law 158 = .ok (.invokevirtual 13, 3) := by decide +kernel
theorem dL_law_161 : decode cL_law 161 = .ok (.aload_n 2, 1) := by decide +kernel
theorem dL_law_162 : decode cL_law 162 = .ok (.aload_n 0, 1) := by decide +kernel
theorem dL_law_163 : decode cL_law 163 = .ok (.iload_n 3, 1) := by decide +kernel
theorem dL_law_164 : decode cL_law 164 = .ok (.iconst 1, 1) := by decide +kernel
theorem dL_law_165 : decode cL_law 165 = .ok (.iadd, 1) := by decide +kernel
theorem dL_law_166 : decode cL_law 166 = .ok (.iaload, 1) := by decide +kernel
theorem dL_law_167 : decode cL_law 167 = .ok (.invokevirtual 17, 3) := by decide +kernel
theorem dL_law_170 : decode cL_law 170 = .ok (.if_icmp .eq 750, 3) := by decide +kernel
theorem dL_law_173 : decode cL_law 173 = .ok (.iconst 0, 1) := by decide +kernel
theorem dL_law_174 : decode cL_law 174 = .ok (.ireturn, 1) := by decide +kernel
theorem dL_law_175 : decode cL_law 175 = .ok (.aload_n 1, 1) := by decide +kernel
theorem dL_law_176 : decode cL_law 176 = .ok (.invokevirtual 18, 3) := by decide +kernel
theorem dL_law_179 : decode cL_law 179 = .ok (.aload_n 2, 1) := by decide +kernel
theorem dL_law_180 : decode cL_law 180 = .ok (.invokevirtual 22, 3) := by decide +kernel
theorem dL_law_183 : decode cL_law 183 = .ok (.if_icmp .eq 737, 3) := by decide +kernel
theorem dL_law_186 : decode cL_law 186 = .ok (.iconst 0, 1) := by decide +kernel
theorem dL_law_187 : decode cL_law 187 = .ok (.ireturn, 1) := by decide +kernel
theorem dL_law_188 : decode cL_law 188 = .ok (.aload_n 1, 1) := by decide +kernel
theorem dL_law_189 : decode cL_law 189 = .ok (.aload_n 0, 1) := by decide +kernel
theorem dL_law_190 : decode cL_law 190 = .ok (.iload_n 3, 1) := by decide +kernel
theorem dL_law_191 : decode cL_law 191 = .ok (.iconst 1, 1) := by decide +kernel
theorem dL_law_192 : decode cL_law 192 = .ok (.iadd, 1) := by decide +kernel
theorem dL_law_193 : decode cL_law 193 = .ok (.iaload, 1) := by decide +kernel
theorem dL_law_194 : decode cL_law 194 = .ok (.aload_n 0, 1) := by decide +kernel
theorem dL_law_195 : decode cL_law 195 = .ok (.iload_n 3, 1) := by decide +kernel
theorem dL_law_196 : decode cL_law 196 = .ok (.iconst 2, 1) := by decide +kernel
theorem dL_law_197 : decode cL_law 197 = .ok (.iadd, 1) := by decide +kernel
theorem dL_law_198 : decode cL_law 198 = .ok (.iaload, 1) := by decide +kernel
theorem dL_law_199 : decode cL_law 199 = .ok (.aload_n 0, 1) := by decide +kernel
theorem dL_law_200 : decode cL_law 200 = .ok (.iload_n 3, 1) := by decide +kernel
theorem dL_law_201 : decode cL_law 201 = .ok (.iconst 3, 1) := by decide +kernel
theorem dL_law_202 : decode cL_law 202 = .ok (.iadd, 1) := by decide +kernel
theorem dL_law_203 : decode cL_law 203 = .ok (.iaload, 1) := by decide +kernel
theorem dL_law_204 : decode cL_law 204 = .ok (.invokevirtual 23, 3) := by decide +kernel
theorem dL_law_207 : decode cL_law 207 = .ok (.aload_n 2, 1) := by decide +kernel
theorem dL_law_208 : decode cL_law 208 = .ok (.aload_n 0, 1) := by decide +kernel
theorem dL_law_209 : decode cL_law 209 = .ok (.iload_n 3, 1) := by decide +kernel
theorem dL_law_210 : decode cL_law 210 = .ok (.iconst 1, 1) := by decide +kernel
theorem dL_law_211 : decode cL_law 211 = .ok (.iadd, 1) := by decide +kernel
theorem dL_law_212 : decode cL_law 212 = .ok (.iaload, 1) := by decide +kernel
theorem dL_law_213 : decode cL_law 213 = .ok (.aload_n 0, 1) := by decide +kernel
theorem dL_law_214 : decode cL_law 214 = .ok (.iload_n 3, 1) := by decide +kernel
theorem dL_law_215 : decode cL_law 215 = .ok (.iconst 2, 1) := by decide +kernel
theorem dL_law_216 : decode cL_law 216 = .ok (.iadd, 1) := by decide +kernel
theorem dL_law_217 : decode cL_law 217 = .ok (.iaload, 1) := by decide +kernel
theorem dL_law_218 : decode cL_law 218 = .ok (.aload_n 0, 1) := by decide +kernel
theorem dL_law_219 : decode cL_law 219 = .ok (.iload_n 3, 1) := by decide +kernel
theorem dL_law_220 : decode cL_law 220 = .ok (.iconst 3, 1) := by decide +kernel
theorem dL_law_221 : decode cL_law 221 = .ok (.iadd, 1) := by decide +kernel
theorem dL_law_222 : decode cL_law 222 = .ok (.iaload, 1) := by decide +kernel
theorem dL_law_223 : decode cL_law 223 = .ok (.invokevirtual 27, 3) := by decide +kernel
theorem dL_law_226 : decode cL_law 226 = .ok (.if_icmp .eq 694, 3) := by decide +kernel
theorem dL_law_229 : decode cL_law 229 = .ok (.iconst 0, 1) := by decide +kernel
theorem dL_law_230 : decode cL_law 230 = .ok (.ireturn, 1) := by decide +kernel
theorem dL_law_231 : decode cL_law 231 = .ok (.aload_n 1, 1) := by decide +kernel
theorem dL_law_232 : decode cL_law 232 = .ok (.aload_n 0, 1) := by decide +kernel
theorem dL_law_233 : decode cL_law 233 = .ok (.iload_n 3, 1) := by decide +kernel
theorem dL_law_234 : decode cL_law 234 = .ok (.iconst 1, 1) := by decide +kernel
theorem dL_law_235 : decode cL_law 235 = .ok (.iadd, 1) := by decide +kernel
theorem dL_law_236 : decode cL_law 236 = .ok (.iaload, 1) := by decide +kernel
theorem dL_law_237 : decode cL_law 237 = .ok (.invokevirtual 28, 3) := by decide +kernel
theorem dL_law_240 : decode cL_law 240 = .ok (.aload_n 2, 1) := by decide +kernel
theorem dL_law_241 : decode cL_law 241 = .ok (.aload_n 0, 1) := by decide +kernel
theorem dL_law_242 : decode cL_law 242 = .ok (.iload_n 3, 1) := by decide +kernel
theorem dL_law_243 : decode cL_law 243 = .ok (.iconst 1, 1) := by decide +kernel
theorem dL_law_244 : decode cL_law 244 = .ok (.iadd, 1) := by decide +kernel
theorem dL_law_245 : decode cL_law 245 = .ok (.iaload, 1) := by decide +kernel
theorem dL_law_246 : decode cL_law 246 = .ok (.invokevirtual 31, 3) := by decide +kernel
theorem dL_law_249 : decode cL_law 249 = .ok (.if_icmp .eq 671, 3) := by decide +kernel
theorem dL_law_252 : decode cL_law 252 = .ok (.iconst 0, 1) := by decide +kernel
theorem dL_law_253 : decode cL_law 253 = .ok (.ireturn, 1) := by decide +kernel
theorem dL_law_254 : decode cL_law 254 = .ok (.aload_n 1, 1) := by decide +kernel
theorem dL_law_255 : decode cL_law 255 = .ok (.aload_n 0, 1) := by decide +kernel
theorem dL_law_256 : decode cL_law 256 = .ok (.iload_n 3, 1) := by decide +kernel
theorem dL_law_257 : decode cL_law 257 = .ok (.iconst 1, 1) := by decide +kernel
theorem dL_law_258 : decode cL_law 258 = .ok (.iadd, 1) := by decide +kernel
theorem dL_law_259 : decode cL_law 259 = .ok (.iaload, 1) := by decide +kernel
theorem dL_law_260 : decode cL_law 260 = .ok (.invokevirtual 32, 3) := by decide +kernel
theorem dL_law_263 : decode cL_law 263 = .ok (.aload_n 2, 1) := by decide +kernel
theorem dL_law_264 : decode cL_law 264 = .ok (.aload_n 0, 1) := by decide +kernel
theorem dL_law_265 : decode cL_law 265 = .ok (.iload_n 3, 1) := by decide +kernel
theorem dL_law_266 : decode cL_law 266 = .ok (.iconst 1, 1) := by decide +kernel
theorem dL_law_267 : decode cL_law 267 = .ok (.iadd, 1) := by decide +kernel
theorem dL_law_268 : decode cL_law 268 = .ok (.iaload, 1) := by decide +kernel
theorem dL_law_269 : decode cL_law 269 = .ok (.invokevirtual 35, 3) := by decide +kernel
theorem dL_law_272 : decode cL_law 272 = .ok (.if_icmp .eq 648, 3) := by decide +kernel
theorem dL_law_275 : decode cL_law 275 = .ok (.iconst 0, 1) := by decide +kernel
theorem dL_law_276 : decode cL_law 276 = .ok (.ireturn, 1) := by decide +kernel
theorem dL_law_277 : decode cL_law 277 = .ok (.aload_n 1, 1) := by decide +kernel
theorem dL_law_278 : decode cL_law 278 = .ok (.aload_n 0, 1) := by decide +kernel
theorem dL_law_279 : decode cL_law 279 = .ok (.iload_n 3, 1) := by decide +kernel
theorem dL_law_280 : decode cL_law 280 = .ok (.iconst 1, 1) := by decide +kernel
theorem dL_law_281 : decode cL_law 281 = .ok (.iadd, 1) := by decide +kernel
theorem dL_law_282 : decode cL_law 282 = .ok (.iaload, 1) := by decide +kernel
theorem dL_law_283 : decode cL_law 283 = .ok (.invokevirtual 36, 3) := by decide +kernel
theorem dL_law_286 : decode cL_law 286 = .ok (.aload_n 2, 1) := by decide +kernel
theorem dL_law_287 : decode cL_law 287 = .ok (.aload_n 0, 1) := by decide +kernel
theorem dL_law_288 : decode cL_law 288 = .ok (.iload_n 3, 1) := by decide +kernel
theorem dL_law_289 : decode cL_law 289 = .ok (.iconst 1, 1) := by decide +kernel
theorem dL_law_290 : decode cL_law 290 = .ok (.iadd, 1) := by decide +kernel
theorem dL_law_291 : decode cL_law 291 = .ok (.iaload, 1) := by decide +kernel
theorem dL_law_292 : decode cL_law 292 = .ok (.invokevirtual 39, 3) := by decide +kernel
theorem dL_law_295 : decode cL_law 295 = .ok (.if_icmp .eq 625, 3) := by decide +kernel
theorem dL_law_298 : decode cL_law 298 = .ok (.iconst 0, 1) := by decide +kernel
theorem dL_law_299 : decode cL_law 299 = .ok (.ireturn, 1) := by decide +kernel
theorem dL_law_300 : decode cL_law 300 = .ok (.aload_n 1, 1) := by decide +kernel
theorem dL_law_301 : decode cL_law 301 = .ok (.aload_n 0, 1) := by decide +kernel
theorem dL_law_302 : decode cL_law 302 = .ok (.iload_n 3, 1) := by decide +kernel
theorem dL_law_303 : decode cL_law 303 = .ok (.iconst 1, 1) := by decide +kernel
theorem dL_law_304 : decode cL_law 304 = .ok (.iadd, 1) := by decide +kernel
theorem dL_law_305 : decode cL_law 305 = .ok (.iaload, 1) := by decide +kernel
theorem dL_law_306 : decode cL_law 306 = .ok (.aload_n 0, 1) := by decide +kernel
theorem dL_law_307 : decode cL_law 307 = .ok (.iload_n 3, 1) := by decide +kernel
theorem dL_law_308 : decode cL_law 308 = .ok (.iconst 2, 1) := by decide +kernel
theorem dL_law_309 : decode cL_law 309 = .ok (.iadd, 1) := by decide +kernel
theorem dL_law_310 : decode cL_law 310 = .ok (.iaload, 1) := by decide +kernel
theorem dL_law_311 : decode cL_law 311 = .ok (.aload_n 0, 1) := by decide +kernel
theorem dL_law_312 : decode cL_law 312 = .ok (.iload_n 3, 1) := by decide +kernel
theorem dL_law_313 : decode cL_law 313 = .ok (.iconst 3, 1) := by decide +kernel
theorem dL_law_314 : decode cL_law 314 = .ok (.iadd, 1) := by decide +kernel
theorem dL_law_315 : decode cL_law 315 = .ok (.iaload, 1) := by decide +kernel
theorem dL_law_316 : decode cL_law 316 = .ok (.aload_n 0, 1) := by decide +kernel
theorem dL_law_317 : decode cL_law 317 = .ok (.iload_n 3, 1) := by decide +kernel
theorem dL_law_318 : decode cL_law 318 = .ok (.iconst 4, 1) := by decide +kernel
theorem dL_law_319 : decode cL_law 319 = .ok (.iadd, 1) := by decide +kernel
theorem dL_law_320 : decode cL_law 320 = .ok (.iaload, 1) := by decide +kernel
theorem dL_law_321 : decode cL_law 321 = .ok (.aload_n 0, 1) := by decide +kernel
theorem dL_law_322 : decode cL_law 322 = .ok (.iload_n 3, 1) := by decide +kernel
theorem dL_law_323 : decode cL_law 323 = .ok (.iconst 5, 1) := by decide +kernel
theorem dL_law_324 : decode cL_law 324 = .ok (.iadd, 1) := by decide +kernel
theorem dL_law_325 : decode cL_law 325 = .ok (.iaload, 1) := by decide +kernel
theorem dL_law_326 : decode cL_law 326 = .ok (.invokevirtual 40, 3) := by decide +kernel
theorem dL_law_329 : decode cL_law 329 = .ok (.aload_n 2, 1) := by decide +kernel
theorem dL_law_330 : decode cL_law 330 = .ok (.aload_n 0, 1) := by decide +kernel
theorem dL_law_331 : decode cL_law 331 = .ok (.iload_n 3, 1) := by decide +kernel
theorem dL_law_332 : decode cL_law 332 = .ok (.iconst 1, 1) := by decide +kernel
theorem dL_law_333 : decode cL_law 333 = .ok (.iadd, 1) := by decide +kernel
theorem dL_law_334 : decode cL_law 334 = .ok (.iaload, 1) := by decide +kernel
theorem dL_law_335 : decode cL_law 335 = .ok (.aload_n 0, 1) := by decide +kernel
theorem dL_law_336 : decode cL_law 336 = .ok (.iload_n 3, 1) := by decide +kernel
theorem dL_law_337 : decode cL_law 337 = .ok (.iconst 2, 1) := by decide +kernel
theorem dL_law_338 : decode cL_law 338 = .ok (.iadd, 1) := by decide +kernel
theorem dL_law_339 : decode cL_law 339 = .ok (.iaload, 1) := by decide +kernel
theorem dL_law_340 : decode cL_law 340 = .ok (.aload_n 0, 1) := by decide +kernel
theorem dL_law_341 : decode cL_law 341 = .ok (.iload_n 3, 1) := by decide +kernel
theorem dL_law_342 : decode cL_law 342 = .ok (.iconst 3, 1) := by decide +kernel
theorem dL_law_343 : decode cL_law 343 = .ok (.iadd, 1) := by decide +kernel
theorem dL_law_344 : decode cL_law 344 = .ok (.iaload, 1) := by decide +kernel
theorem dL_law_345 : decode cL_law 345 = .ok (.aload_n 0, 1) := by decide +kernel
theorem dL_law_346 : decode cL_law 346 = .ok (.iload_n 3, 1) := by decide +kernel
theorem dL_law_347 : decode cL_law 347 = .ok (.iconst 4, 1) := by decide +kernel
theorem dL_law_348 : decode cL_law 348 = .ok (.iadd, 1) := by decide +kernel
theorem dL_law_349 : decode cL_law 349 = .ok (.iaload, 1) := by decide +kernel
theorem dL_law_350 : decode cL_law 350 = .ok (.aload_n 0, 1) := by decide +kernel
theorem dL_law_351 : decode cL_law 351 = .ok (.iload_n 3, 1) := by decide +kernel
theorem dL_law_352 : decode cL_law 352 = .ok (.iconst 5, 1) := by decide +kernel
theorem dL_law_353 : decode cL_law 353 = .ok (.iadd, 1) := by decide +kernel
theorem dL_law_354 : decode cL_law 354 = .ok (.iaload, 1) := by decide +kernel
theorem dL_law_355 : decode cL_law 355 = .ok (.invokevirtual 44, 3) := by decide +kernel
theorem dL_law_358 : decode cL_law 358 = .ok (.if_icmp .eq 562, 3) := by decide +kernel
theorem dL_law_361 : decode cL_law 361 = .ok (.iconst 0, 1) := by decide +kernel
theorem dL_law_362 : decode cL_law 362 = .ok (.ireturn, 1) := by decide +kernel
theorem dL_law_363 : decode cL_law 363 = .ok (.aload_n 1, 1) := by decide +kernel
theorem dL_law_364 : decode cL_law 364 = .ok (.aload_n 0, 1) := by decide +kernel
theorem dL_law_365 : decode cL_law 365 = .ok (.iload_n 3, 1) := by decide +kernel
theorem dL_law_366 : decode cL_law 366 = .ok (.iconst 1, 1) := by decide +kernel
theorem dL_law_367 : decode cL_law 367 = .ok (.iadd, 1) := by decide +kernel
theorem dL_law_368 : decode cL_law 368 = .ok (.iaload, 1) := by decide +kernel
theorem dL_law_369 : decode cL_law 369 = .ok (.aload_n 0, 1) := by decide +kernel
theorem dL_law_370 : decode cL_law 370 = .ok (.iload_n 3, 1) := by decide +kernel
theorem dL_law_371 : decode cL_law 371 = .ok (.iconst 2, 1) := by decide +kernel
theorem dL_law_372 : decode cL_law 372 = .ok (.iadd, 1) := by decide +kernel
theorem dL_law_373 : decode cL_law 373 = .ok (.iaload, 1) := by decide +kernel
theorem dL_law_374 : decode cL_law 374 = .ok (.aload_n 0, 1) := by decide +kernel
theorem dL_law_375 : decode cL_law 375 = .ok (.iload_n 3, 1) := by decide +kernel
theorem dL_law_376 : decode cL_law 376 = .ok (.iconst 3, 1) := by decide +kernel
theorem dL_law_377 : decode cL_law 377 = .ok (.iadd, 1) := by decide +kernel
theorem dL_law_378 : decode cL_law 378 = .ok (.iaload, 1) := by decide +kernel
theorem dL_law_379 : decode cL_law 379 = .ok (.invokevirtual 45, 3) := by decide +kernel
theorem dL_law_382 : decode cL_law 382 = .ok (.aload_n 2, 1) := by decide +kernel
theorem dL_law_383 : decode cL_law 383 = .ok (.aload_n 0, 1) := by decide +kernel
theorem dL_law_384 : decode cL_law 384 = .ok (.iload_n 3, 1) := by decide +kernel
theorem dL_law_385 : decode cL_law 385 = .ok (.iconst 1, 1) := by decide +kernel
theorem dL_law_386 : decode cL_law 386 = .ok (.iadd, 1) := by decide +kernel
theorem dL_law_387 : decode cL_law 387 = .ok (.iaload, 1) := by decide +kernel
theorem dL_law_388 : decode cL_law 388 = .ok (.aload_n 0, 1) := by decide +kernel
theorem dL_law_389 : decode cL_law 389 = .ok (.iload_n 3, 1) := by decide +kernel
theorem dL_law_390 : decode cL_law 390 = .ok (.iconst 2, 1) := by decide +kernel
theorem dL_law_391 : decode cL_law 391 = .ok (.iadd, 1) := by decide +kernel
theorem dL_law_392 : decode cL_law 392 = .ok (.iaload, 1) := by decide +kernel
theorem dL_law_393 : decode cL_law 393 = .ok (.aload_n 0, 1) := by decide +kernel
theorem dL_law_394 : decode cL_law 394 = .ok (.iload_n 3, 1) := by decide +kernel
theorem dL_law_395 : decode cL_law 395 = .ok (.iconst 3, 1) := by decide +kernel
theorem dL_law_396 : decode cL_law 396 = .ok (.iadd, 1) := by decide +kernel
theorem dL_law_397 : decode cL_law 397 = .ok (.iaload, 1) := by decide +kernel
theorem dL_law_398 : decode cL_law 398 = .ok (.invokevirtual 48, 3) := by decide +kernel
theorem dL_law_401 : decode cL_law 401 = .ok (.if_icmp .eq 519, 3) := by decide +kernel
theorem dL_law_404 : decode cL_law 404 = .ok (.iconst 0, 1) := by decide +kernel
theorem dL_law_405 : decode cL_law 405 = .ok (.ireturn, 1) := by decide +kernel
theorem dL_law_406 : decode cL_law 406 = .ok (.aload_n 1, 1) := by decide +kernel
theorem dL_law_407 : decode cL_law 407 = .ok (.aload_n 0, 1) := by decide +kernel
theorem dL_law_408 : decode cL_law 408 = .ok (.iload_n 3, 1) := by decide +kernel
theorem dL_law_409 : decode cL_law 409 = .ok (.iconst 1, 1) := by decide +kernel
theorem dL_law_410 : decode cL_law 410 = .ok (.iadd, 1) := by decide +kernel
theorem dL_law_411 : decode cL_law 411 = .ok (.iaload, 1) := by decide +kernel
theorem dL_law_412 : decode cL_law 412 = .ok (.invokevirtual 49, 3) := by decide +kernel
theorem dL_law_415 : decode cL_law 415 = .ok (.aload_n 2, 1) := by decide +kernel
theorem dL_law_416 : decode cL_law 416 = .ok (.aload_n 0, 1) := by decide +kernel
theorem dL_law_417 : decode cL_law 417 = .ok (.iload_n 3, 1) := by decide +kernel
theorem dL_law_418 : decode cL_law 418 = .ok (.iconst 1, 1) := by decide +kernel
theorem dL_law_419 : decode cL_law 419 = .ok (.iadd, 1) := by decide +kernel
theorem dL_law_420 : decode cL_law 420 = .ok (.iaload, 1) := by decide +kernel
theorem dL_law_421 : decode cL_law 421 = .ok (.invokevirtual 52, 3) := by decide +kernel
theorem dL_law_424 : decode cL_law 424 = .ok (.if_icmp .eq 496, 3) := by decide +kernel
theorem dL_law_427 : decode cL_law 427 = .ok (.iconst 0, 1) := by decide +kernel
theorem dL_law_428 : decode cL_law 428 = .ok (.ireturn, 1) := by decide +kernel
theorem dL_law_429 : decode cL_law 429 = .ok (.aload_n 1, 1) := by decide +kernel
theorem dL_law_430 : decode cL_law 430 = .ok (.aload_n 0, 1) := by decide +kernel
theorem dL_law_431 : decode cL_law 431 = .ok (.iload_n 3, 1) := by decide +kernel
theorem dL_law_432 : decode cL_law 432 = .ok (.iconst 1, 1) := by decide +kernel
theorem dL_law_433 : decode cL_law 433 = .ok (.iadd, 1) := by decide +kernel
theorem dL_law_434 : decode cL_law 434 = .ok (.iaload, 1) := by decide +kernel
theorem dL_law_435 : decode cL_law 435 = .ok (.aload_n 0, 1) := by decide +kernel
theorem dL_law_436 : decode cL_law 436 = .ok (.iload_n 3, 1) := by decide +kernel
theorem dL_law_437 : decode cL_law 437 = .ok (.iconst 2, 1) := by decide +kernel
theorem dL_law_438 : decode cL_law 438 = .ok (.iadd, 1) := by decide +kernel
theorem dL_law_439 : decode cL_law 439 = .ok (.iaload, 1) := by decide +kernel
theorem dL_law_440 : decode cL_law 440 = .ok (.invokevirtual 53, 3) := by decide +kernel
theorem dL_law_443 : decode cL_law 443 = .ok (.aload_n 2, 1) := by decide +kernel
theorem dL_law_444 : decode cL_law 444 = .ok (.aload_n 0, 1) := by decide +kernel
theorem dL_law_445 : decode cL_law 445 = .ok (.iload_n 3, 1) := by decide +kernel
theorem dL_law_446 : decode cL_law 446 = .ok (.iconst 1, 1) := by decide +kernel
theorem dL_law_447 : decode cL_law 447 = .ok (.iadd, 1) := by decide +kernel
theorem dL_law_448 : decode cL_law 448 = .ok (.iaload, 1) := by decide +kernel
theorem dL_law_449 : decode cL_law 449 = .ok (.aload_n 0, 1) := by decide +kernel
theorem dL_law_450 : decode cL_law 450 = .ok (.iload_n 3, 1) := by decide +kernel
theorem dL_law_451 : decode cL_law 451 = .ok (.iconst 2, 1) := by decide +kernel
theorem dL_law_452 : decode cL_law 452 = .ok (.iadd, 1) := by decide +kernel
theorem dL_law_453 : decode cL_law 453 = .ok (.iaload, 1) := by decide +kernel
theorem dL_law_454 : decode cL_law 454 = .ok (.invokevirtual 57, 3) := by decide +kernel
theorem dL_law_457 : decode cL_law 457 = .ok (.if_icmp .eq 463, 3) := by decide +kernel
theorem dL_law_460 : decode cL_law 460 = .ok (.iconst 0, 1) := by decide +kernel
theorem dL_law_461 : decode cL_law 461 = .ok (.ireturn, 1) := by decide +kernel
theorem dL_law_462 : decode cL_law 462 = .ok (.aload_n 1, 1) := by decide +kernel
theorem dL_law_463 : decode cL_law 463 = .ok (.aload_n 0, 1) := by decide +kernel
theorem dL_law_464 : decode cL_law 464 = .ok (.iload_n 3, 1) := by decide +kernel
theorem dL_law_465 : decode cL_law 465 = .ok (.iconst 1, 1) := by decide +kernel
theorem dL_law_466 : decode cL_law 466 = .ok (.iadd, 1) := by decide +kernel
theorem dL_law_467 : decode cL_law 467 = .ok (.iaload, 1) := by decide +kernel
theorem dL_law_468 : decode cL_law 468 = .ok (.aload_n 0, 1) := by decide +kernel
theorem dL_law_469 : decode cL_law 469 = .ok (.iload_n 3, 1) := by decide +kernel
theorem dL_law_470 : decode cL_law 470 = .ok (.iconst 2, 1) := by decide +kernel
theorem dL_law_471 : decode cL_law 471 = .ok (.iadd, 1) := by decide +kernel
theorem dL_law_472 : decode cL_law 472 = .ok (.iaload, 1) := by decide +kernel
theorem dL_law_473 : decode cL_law 473 = .ok (.aload_n 0, 1) := by decide +kernel
theorem dL_law_474 : decode cL_law 474 = .ok (.iload_n 3, 1) := by decide +kernel
theorem dL_law_475 : decode cL_law 475 = .ok (.iconst 3, 1) := by decide +kernel
theorem dL_law_476 : decode cL_law 476 = .ok (.iadd, 1) := by decide +kernel
theorem dL_law_477 : decode cL_law 477 = .ok (.iaload, 1) := by decide +kernel
theorem dL_law_478 : decode cL_law 478 = .ok (.aload_n 0, 1) := by decide +kernel
theorem dL_law_479 : decode cL_law 479 = .ok (.iload_n 3, 1) := by decide +kernel
theorem dL_law_480 : decode cL_law 480 = .ok (.iconst 4, 1) := by decide +kernel
theorem dL_law_481 : decode cL_law 481 = .ok (.iadd, 1) := by decide +kernel
theorem dL_law_482 : decode cL_law 482 = .ok (.iaload, 1) := by decide +kernel
theorem dL_law_483 : decode cL_law 483 = .ok (.invokevirtual 58, 3) := by decide +kernel
theorem dL_law_486 : decode cL_law 486 = .ok (.aload_n 2, 1) := by decide +kernel
theorem dL_law_487 : decode cL_law 487 = .ok (.aload_n 0, 1) := by decide +kernel
theorem dL_law_488 : decode cL_law 488 = .ok (.iload_n 3, 1) := by decide +kernel
theorem dL_law_489 : decode cL_law 489 = .ok (.iconst 1, 1) := by decide +kernel
theorem dL_law_490 : decode cL_law 490 = .ok (.iadd, 1) := by decide +kernel
theorem dL_law_491 : decode cL_law 491 = .ok (.iaload, 1) := by decide +kernel
theorem dL_law_492 : decode cL_law 492 = .ok (.aload_n 0, 1) := by decide +kernel
theorem dL_law_493 : decode cL_law 493 = .ok (.iload_n 3, 1) := by decide +kernel
theorem dL_law_494 : decode cL_law 494 = .ok (.iconst 2, 1) := by decide +kernel
theorem dL_law_495 : decode cL_law 495 = .ok (.iadd, 1) := by decide +kernel
theorem dL_law_496 : decode cL_law 496 = .ok (.iaload, 1) := by decide +kernel
theorem dL_law_497 : decode cL_law 497 = .ok (.aload_n 0, 1) := by decide +kernel
theorem dL_law_498 : decode cL_law 498 = .ok (.iload_n 3, 1) := by decide +kernel
theorem dL_law_499 : decode cL_law 499 = .ok (.iconst 3, 1) := by decide +kernel
theorem dL_law_500 : decode cL_law 500 = .ok (.iadd, 1) := by decide +kernel
theorem dL_law_501 : decode cL_law 501 = .ok (.iaload, 1) := by decide +kernel
theorem dL_law_502 : decode cL_law 502 = .ok (.aload_n 0, 1) := by decide +kernel
theorem dL_law_503 : decode cL_law 503 = .ok (.iload_n 3, 1) := by decide +kernel
theorem dL_law_504 : decode cL_law 504 = .ok (.iconst 4, 1) := by decide +kernel
theorem dL_law_505 : decode cL_law 505 = .ok (.iadd, 1) := by decide +kernel
theorem dL_law_506 : decode cL_law 506 = .ok (.iaload, 1) := by decide +kernel
theorem dL_law_507 : decode cL_law 507 = .ok (.invokevirtual 62, 3) := by decide +kernel
theorem dL_law_510 : decode cL_law 510 = .ok (.if_icmp .eq 410, 3) := by decide +kernel
theorem dL_law_513 : decode cL_law 513 = .ok (.iconst 0, 1) := by decide +kernel
theorem dL_law_514 : decode cL_law 514 = .ok (.ireturn, 1) := by decide +kernel
theorem dL_law_515 : decode cL_law 515 = .ok (.aload_n 1, 1) := by decide +kernel
theorem dL_law_516 : decode cL_law 516 = .ok (.invokevirtual 63, 3) := by decide +kernel
theorem dL_law_519 : decode cL_law 519 = .ok (.aload_n 2, 1) := by decide +kernel
theorem dL_law_520 : decode cL_law 520 = .ok (.invokevirtual 66, 3) := by decide +kernel
theorem dL_law_523 : decode cL_law 523 = .ok (.if_icmp .eq 397, 3) := by decide +kernel
theorem dL_law_526 : decode cL_law 526 = .ok (.iconst 0, 1) := by decide +kernel
theorem dL_law_527 : decode cL_law 527 = .ok (.ireturn, 1) := by decide +kernel
theorem dL_law_528 : decode cL_law 528 = .ok (.aload_n 1, 1) := by decide +kernel
theorem dL_law_529 : decode cL_law 529 = .ok (.invokevirtual 67, 3) := by decide +kernel
theorem dL_law_532 : decode cL_law 532 = .ok (.aload_n 2, 1) := by decide +kernel
theorem dL_law_533 : decode cL_law 533 = .ok (.invokevirtual 70, 3) := by decide +kernel
theorem dL_law_536 : decode cL_law 536 = .ok (.if_icmp .eq 384, 3) := by decide +kernel
theorem dL_law_539 : decode cL_law 539 = .ok (.iconst 0, 1) := by decide +kernel
theorem dL_law_540 : decode cL_law 540 = .ok (.ireturn, 1) := by decide +kernel
theorem dL_law_541 : decode cL_law 541 = .ok (.aload_n 1, 1) := by decide +kernel
theorem dL_law_542 : decode cL_law 542 = .ok (.aload_n 0, 1) := by decide +kernel
theorem dL_law_543 : decode cL_law 543 = .ok (.iload_n 3, 1) := by decide +kernel
theorem dL_law_544 : decode cL_law 544 = .ok (.iconst 1, 1) := by decide +kernel
theorem dL_law_545 : decode cL_law 545 = .ok (.iadd, 1) := by decide +kernel
theorem dL_law_546 : decode cL_law 546 = .ok (.iaload, 1) := by decide +kernel
theorem dL_law_547 : decode cL_law 547 = .ok (.aload_n 0, 1) := by decide +kernel
theorem dL_law_548 : decode cL_law 548 = .ok (.iload_n 3, 1) := by decide +kernel
theorem dL_law_549 : decode cL_law 549 = .ok (.iconst 2, 1) := by decide +kernel
theorem dL_law_550 : decode cL_law 550 = .ok (.iadd, 1) := by decide +kernel
theorem dL_law_551 : decode cL_law 551 = .ok (.iaload, 1) := by decide +kernel
theorem dL_law_552 : decode cL_law 552 = .ok (.invokevirtual 71, 3) := by decide +kernel
theorem dL_law_555 : decode cL_law 555 = .ok (.aload_n 2, 1) := by decide +kernel
theorem dL_law_556 : decode cL_law 556 = .ok (.aload_n 0, 1) := by decide +kernel
theorem dL_law_557 : decode cL_law 557 = .ok (.iload_n 3, 1) := by decide +kernel
theorem dL_law_558 : decode cL_law 558 = .ok (.iconst 1, 1) := by decide +kernel
theorem dL_law_559 : decode cL_law 559 = .ok (.iadd, 1) := by decide +kernel
theorem dL_law_560 : decode cL_law 560 = .ok (.iaload, 1) := by decide +kernel
theorem dL_law_561 : decode cL_law 561 = .ok (.aload_n 0, 1) := by decide +kernel
theorem dL_law_562 : decode cL_law 562 = .ok (.iload_n 3, 1) := by decide +kernel
theorem dL_law_563 : decode cL_law 563 = .ok (.iconst 2, 1) := by decide +kernel
theorem dL_law_564 : decode cL_law 564 = .ok (.iadd, 1) := by decide +kernel
theorem dL_law_565 : decode cL_law 565 = .ok (.iaload, 1) := by decide +kernel
theorem dL_law_566 : decode cL_law 566 = .ok (.invokevirtual 74, 3) := by decide +kernel
theorem dL_law_569 : decode cL_law 569 = .ok (.if_icmp .eq 351, 3) := by decide +kernel
theorem dL_law_572 : decode cL_law 572 = .ok (.iconst 0, 1) := by decide +kernel
theorem dL_law_573 : decode cL_law 573 = .ok (.ireturn, 1) := by decide +kernel
theorem dL_law_574 : decode cL_law 574 = .ok (.aload_n 1, 1) := by decide +kernel
theorem dL_law_575 : decode cL_law 575 = .ok (.aload_n 0, 1) := by decide +kernel
theorem dL_law_576 : decode cL_law 576 = .ok (.iload_n 3, 1) := by decide +kernel
theorem dL_law_577 : decode cL_law 577 = .ok (.iconst 1, 1) := by decide +kernel
theorem dL_law_578 : decode cL_law 578 = .ok (.iadd, 1) := by decide +kernel
theorem dL_law_579 : decode cL_law 579 = .ok (.iaload, 1) := by decide +kernel
theorem dL_law_580 : decode cL_law 580 = .ok (.aload_n 0, 1) := by decide +kernel
theorem dL_law_581 : decode cL_law 581 = .ok (.iload_n 3, 1) := by decide +kernel
theorem dL_law_582 : decode cL_law 582 = .ok (.iconst 2, 1) := by decide +kernel
theorem dL_law_583 : decode cL_law 583 = .ok (.iadd, 1) := by decide +kernel
theorem dL_law_584 : decode cL_law 584 = .ok (.iaload, 1) := by decide +kernel
theorem dL_law_585 : decode cL_law 585 = .ok (.invokevirtual 75, 3) := by decide +kernel
theorem dL_law_588 : decode cL_law 588 = .ok (.aload_n 2, 1) := by decide +kernel
theorem dL_law_589 : decode cL_law 589 = .ok (.aload_n 0, 1) := by decide +kernel
theorem dL_law_590 : decode cL_law 590 = .ok (.iload_n 3, 1) := by decide +kernel
theorem dL_law_591 : decode cL_law 591 = .ok (.iconst 1, 1) := by decide +kernel
theorem dL_law_592 : decode cL_law 592 = .ok (.iadd, 1) := by decide +kernel
theorem dL_law_593 : decode cL_law 593 = .ok (.iaload, 1) := by decide +kernel
theorem dL_law_594 : decode cL_law 594 = .ok (.aload_n 0, 1) := by decide +kernel
theorem dL_law_595 : decode cL_law 595 = .ok (.iload_n 3, 1) := by decide +kernel
theorem dL_law_596 : decode cL_law 596 = .ok (.iconst 2, 1) := by decide +kernel
theorem dL_law_597 : decode cL_law 597 = .ok (.iadd, 1) := by decide +kernel
theorem dL_law_598 : decode cL_law 598 = .ok (.iaload, 1) := by decide +kernel
theorem dL_law_599 : decode cL_law 599 = .ok (.invokevirtual 78, 3) := by decide +kernel
theorem dL_law_602 : decode cL_law 602 = .ok (.if_icmp .eq 318, 3) := by decide +kernel
theorem dL_law_605 : decode cL_law 605 = .ok (.iconst 0, 1) := by decide +kernel
theorem dL_law_606 : decode cL_law 606 = .ok (.ireturn, 1) := by decide +kernel
theorem dL_law_607 : decode cL_law 607 = .ok (.aload_n 1, 1) := by decide +kernel
theorem dL_law_608 : decode cL_law 608 = .ok (.aload_n 0, 1) := by decide +kernel
theorem dL_law_609 : decode cL_law 609 = .ok (.iload_n 3, 1) := by decide +kernel
theorem dL_law_610 : decode cL_law 610 = .ok (.iconst 1, 1) := by decide +kernel
theorem dL_law_611 : decode cL_law 611 = .ok (.iadd, 1) := by decide +kernel
theorem dL_law_612 : decode cL_law 612 = .ok (.iaload, 1) := by decide +kernel
theorem dL_law_613 : decode cL_law 613 = .ok (.aload_n 0, 1) := by decide +kernel
theorem dL_law_614 : decode cL_law 614 = .ok (.iload_n 3, 1) := by decide +kernel
theorem dL_law_615 : decode cL_law 615 = .ok (.iconst 2, 1) := by decide +kernel
theorem dL_law_616 : decode cL_law 616 = .ok (.iadd, 1) := by decide +kernel
theorem dL_law_617 : decode cL_law 617 = .ok (.iaload, 1) := by decide +kernel
theorem dL_law_618 : decode cL_law 618 = .ok (.invokevirtual 79, 3) := by decide +kernel
theorem dL_law_621 : decode cL_law 621 = .ok (.aload_n 2, 1) := by decide +kernel
theorem dL_law_622 : decode cL_law 622 = .ok (.aload_n 0, 1) := by decide +kernel
theorem dL_law_623 : decode cL_law 623 = .ok (.iload_n 3, 1) := by decide +kernel
theorem dL_law_624 : decode cL_law 624 = .ok (.iconst 1, 1) := by decide +kernel
theorem dL_law_625 : decode cL_law 625 = .ok (.iadd, 1) := by decide +kernel
theorem dL_law_626 : decode cL_law 626 = .ok (.iaload, 1) := by decide +kernel
theorem dL_law_627 : decode cL_law 627 = .ok (.aload_n 0, 1) := by decide +kernel
theorem dL_law_628 : decode cL_law 628 = .ok (.iload_n 3, 1) := by decide +kernel
theorem dL_law_629 : decode cL_law 629 = .ok (.iconst 2, 1) := by decide +kernel
theorem dL_law_630 : decode cL_law 630 = .ok (.iadd, 1) := by decide +kernel
theorem dL_law_631 : decode cL_law 631 = .ok (.iaload, 1) := by decide +kernel
theorem dL_law_632 : decode cL_law 632 = .ok (.invokevirtual 82, 3) := by decide +kernel
theorem dL_law_635 : decode cL_law 635 = .ok (.if_icmp .eq 285, 3) := by decide +kernel
theorem dL_law_638 : decode cL_law 638 = .ok (.iconst 0, 1) := by decide +kernel
theorem dL_law_639 : decode cL_law 639 = .ok (.ireturn, 1) := by decide +kernel
theorem dL_law_640 : decode cL_law 640 = .ok (.aload_n 1, 1) := by decide +kernel
theorem dL_law_641 : decode cL_law 641 = .ok (.aload_n 0, 1) := by decide +kernel
theorem dL_law_642 : decode cL_law 642 = .ok (.iload_n 3, 1) := by decide +kernel
theorem dL_law_643 : decode cL_law 643 = .ok (.iconst 1, 1) := by decide +kernel
theorem dL_law_644 : decode cL_law 644 = .ok (.iadd, 1) := by decide +kernel
theorem dL_law_645 : decode cL_law 645 = .ok (.iaload, 1) := by decide +kernel
theorem dL_law_646 : decode cL_law 646 = .ok (.aload_n 0, 1) := by decide +kernel
theorem dL_law_647 : decode cL_law 647 = .ok (.iload_n 3, 1) := by decide +kernel
theorem dL_law_648 : decode cL_law 648 = .ok (.iconst 2, 1) := by decide +kernel
theorem dL_law_649 : decode cL_law 649 = .ok (.iadd, 1) := by decide +kernel
theorem dL_law_650 : decode cL_law 650 = .ok (.iaload, 1) := by decide +kernel
theorem dL_law_651 : decode cL_law 651 = .ok (.invokevirtual 83, 3) := by decide +kernel
theorem dL_law_654 : decode cL_law 654 = .ok (.aload_n 2, 1) := by decide +kernel
theorem dL_law_655 : decode cL_law 655 = .ok (.aload_n 0, 1) := by decide +kernel
theorem dL_law_656 : decode cL_law 656 = .ok (.iload_n 3, 1) := by decide +kernel
theorem dL_law_657 : decode cL_law 657 = .ok (.iconst 1, 1) := by decide +kernel
theorem dL_law_658 : decode cL_law 658 = .ok (.iadd, 1) := by decide +kernel
theorem dL_law_659 : decode cL_law 659 = .ok (.iaload, 1) := by decide +kernel
theorem dL_law_660 : decode cL_law 660 = .ok (.aload_n 0, 1) := by decide +kernel
theorem dL_law_661 : decode cL_law 661 = .ok (.iload_n 3, 1) := by decide +kernel
theorem dL_law_662 : decode cL_law 662 = .ok (.iconst 2, 1) := by decide +kernel
theorem dL_law_663 : decode cL_law 663 = .ok (.iadd, 1) := by decide +kernel
theorem dL_law_664 : decode cL_law 664 = .ok (.iaload, 1) := by decide +kernel
theorem dL_law_665 : decode cL_law 665 = .ok (.invokevirtual 86, 3) := by decide +kernel
theorem dL_law_668 : decode cL_law 668 = .ok (.if_icmp .eq 252, 3) := by decide +kernel
theorem dL_law_671 : decode cL_law 671 = .ok (.iconst 0, 1) := by decide +kernel
theorem dL_law_672 : decode cL_law 672 = .ok (.ireturn, 1) := by decide +kernel
theorem dL_law_673 : decode cL_law 673 = .ok (.aload_n 1, 1) := by decide +kernel
theorem dL_law_674 : decode cL_law 674 = .ok (.aload_n 0, 1) := by decide +kernel
theorem dL_law_675 : decode cL_law 675 = .ok (.iload_n 3, 1) := by decide +kernel
theorem dL_law_676 : decode cL_law 676 = .ok (.iconst 1, 1) := by decide +kernel
theorem dL_law_677 : decode cL_law 677 = .ok (.iadd, 1) := by decide +kernel
theorem dL_law_678 : decode cL_law 678 = .ok (.iaload, 1) := by decide +kernel
theorem dL_law_679 : decode cL_law 679 = .ok (.aload_n 0, 1) := by decide +kernel
theorem dL_law_680 : decode cL_law 680 = .ok (.iload_n 3, 1) := by decide +kernel
theorem dL_law_681 : decode cL_law 681 = .ok (.iconst 2, 1) := by decide +kernel
theorem dL_law_682 : decode cL_law 682 = .ok (.iadd, 1) := by decide +kernel
theorem dL_law_683 : decode cL_law 683 = .ok (.iaload, 1) := by decide +kernel
theorem dL_law_684 : decode cL_law 684 = .ok (.invokevirtual 87, 3) := by decide +kernel
theorem dL_law_687 : decode cL_law 687 = .ok (.aload_n 2, 1) := by decide +kernel
theorem dL_law_688 : decode cL_law 688 = .ok (.aload_n 0, 1) := by decide +kernel
theorem dL_law_689 : decode cL_law 689 = .ok (.iload_n 3, 1) := by decide +kernel
theorem dL_law_690 : decode cL_law 690 = .ok (.iconst 1, 1) := by decide +kernel
theorem dL_law_691 : decode cL_law 691 = .ok (.iadd, 1) := by decide +kernel
theorem dL_law_692 : decode cL_law 692 = .ok (.iaload, 1) := by decide +kernel
theorem dL_law_693 : decode cL_law 693 = .ok (.aload_n 0, 1) := by decide +kernel
theorem dL_law_694 : decode cL_law 694 = .ok (.iload_n 3, 1) := by decide +kernel
theorem dL_law_695 : decode cL_law 695 = .ok (.iconst 2, 1) := by decide +kernel
theorem dL_law_696 : decode cL_law 696 = .ok (.iadd, 1) := by decide +kernel
theorem dL_law_697 : decode cL_law 697 = .ok (.iaload, 1) := by decide +kernel
theorem dL_law_698 : decode cL_law 698 = .ok (.invokevirtual 90, 3) := by decide +kernel
theorem dL_law_701 : decode cL_law 701 = .ok (.if_icmp .eq 219, 3) := by decide +kernel
theorem dL_law_704 : decode cL_law 704 = .ok (.iconst 0, 1) := by decide +kernel
theorem dL_law_705 : decode cL_law 705 = .ok (.ireturn, 1) := by decide +kernel
theorem dL_law_706 : decode cL_law 706 = .ok (.aload_n 1, 1) := by decide +kernel
theorem dL_law_707 : decode cL_law 707 = .ok (.aload_n 0, 1) := by decide +kernel
theorem dL_law_708 : decode cL_law 708 = .ok (.iload_n 3, 1) := by decide +kernel
theorem dL_law_709 : decode cL_law 709 = .ok (.iconst 1, 1) := by decide +kernel
theorem dL_law_710 : decode cL_law 710 = .ok (.iadd, 1) := by decide +kernel
theorem dL_law_711 : decode cL_law 711 = .ok (.iaload, 1) := by decide +kernel
theorem dL_law_712 : decode cL_law 712 = .ok (.aload_n 0, 1) := by decide +kernel
theorem dL_law_713 : decode cL_law 713 = .ok (.iload_n 3, 1) := by decide +kernel
theorem dL_law_714 : decode cL_law 714 = .ok (.iconst 2, 1) := by decide +kernel
theorem dL_law_715 : decode cL_law 715 = .ok (.iadd, 1) := by decide +kernel
theorem dL_law_716 : decode cL_law 716 = .ok (.iaload, 1) := by decide +kernel
theorem dL_law_717 : decode cL_law 717 = .ok (.invokevirtual 91, 3) := by decide +kernel
theorem dL_law_720 : decode cL_law 720 = .ok (.aload_n 2, 1) := by decide +kernel
theorem dL_law_721 : decode cL_law 721 = .ok (.aload_n 0, 1) := by decide +kernel
theorem dL_law_722 : decode cL_law 722 = .ok (.iload_n 3, 1) := by decide +kernel
theorem dL_law_723 : decode cL_law 723 = .ok (.iconst 1, 1) := by decide +kernel
theorem dL_law_724 : decode cL_law 724 = .ok (.iadd, 1) := by decide +kernel
theorem dL_law_725 : decode cL_law 725 = .ok (.iaload, 1) := by decide +kernel
theorem dL_law_726 : decode cL_law 726 = .ok (.aload_n 0, 1) := by decide +kernel
theorem dL_law_727 : decode cL_law 727 = .ok (.iload_n 3, 1) := by decide +kernel
theorem dL_law_728 : decode cL_law 728 = .ok (.iconst 2, 1) := by decide +kernel
theorem dL_law_729 : decode cL_law 729 = .ok (.iadd, 1) := by decide +kernel
theorem dL_law_730 : decode cL_law 730 = .ok (.iaload, 1) := by decide +kernel
theorem dL_law_731 : decode cL_law 731 = .ok (.invokevirtual 94, 3) := by decide +kernel
theorem dL_law_734 : decode cL_law 734 = .ok (.if_icmp .eq 186, 3) := by decide +kernel
theorem dL_law_737 : decode cL_law 737 = .ok (.iconst 0, 1) := by decide +kernel
theorem dL_law_738 : decode cL_law 738 = .ok (.ireturn, 1) := by decide +kernel
theorem dL_law_739 : decode cL_law 739 = .ok (.aload_n 1, 1) := by decide +kernel
theorem dL_law_740 : decode cL_law 740 = .ok (.aload_n 0, 1) := by decide +kernel
theorem dL_law_741 : decode cL_law 741 = .ok (.iload_n 3, 1) := by decide +kernel
theorem dL_law_742 : decode cL_law 742 = .ok (.iconst 1, 1) := by decide +kernel
theorem dL_law_743 : decode cL_law 743 = .ok (.iadd, 1) := by decide +kernel
theorem dL_law_744 : decode cL_law 744 = .ok (.iaload, 1) := by decide +kernel
theorem dL_law_745 : decode cL_law 745 = .ok (.invokevirtual 95, 3) := by decide +kernel
theorem dL_law_748 : decode cL_law 748 = .ok (.aload_n 2, 1) := by decide +kernel
theorem dL_law_749 : decode cL_law 749 = .ok (.aload_n 0, 1) := by decide +kernel
theorem dL_law_750 : decode cL_law 750 = .ok (.iload_n 3, 1) := by decide +kernel
theorem dL_law_751 : decode cL_law 751 = .ok (.iconst 1, 1) := by decide +kernel
theorem dL_law_752 : decode cL_law 752 = .ok (.iadd, 1) := by decide +kernel
theorem dL_law_753 : decode cL_law 753 = .ok (.iaload, 1) := by decide +kernel
theorem dL_law_754 : decode cL_law 754 = .ok (.invokevirtual 98, 3) := by decide +kernel
theorem dL_law_757 : decode cL_law 757 = .ok (.if_icmp .eq 163, 3) := by decide +kernel
theorem dL_law_760 : decode cL_law 760 = .ok (.iconst 0, 1) := by decide +kernel
theorem dL_law_761 : decode cL_law 761 = .ok (.ireturn, 1) := by decide +kernel
theorem dL_law_762 : decode cL_law 762 = .ok (.aload_n 1, 1) := by decide +kernel
theorem dL_law_763 : decode cL_law 763 = .ok (.aload_n 0, 1) := by decide +kernel
theorem dL_law_764 : decode cL_law 764 = .ok (.iload_n 3, 1) := by decide +kernel
theorem dL_law_765 : decode cL_law 765 = .ok (.iconst 1, 1) := by decide +kernel
theorem dL_law_766 : decode cL_law 766 = .ok (.iadd, 1) := by decide +kernel
theorem dL_law_767 : decode cL_law 767 = .ok (.iaload, 1) := by decide +kernel
theorem dL_law_768 : decode cL_law 768 = .ok (.aload_n 0, 1) := by decide +kernel
theorem dL_law_769 : decode cL_law 769 = .ok (.iload_n 3, 1) := by decide +kernel
theorem dL_law_770 : decode cL_law 770 = .ok (.iconst 2, 1) := by decide +kernel
theorem dL_law_771 : decode cL_law 771 = .ok (.iadd, 1) := by decide +kernel
theorem dL_law_772 : decode cL_law 772 = .ok (.iaload, 1) := by decide +kernel
theorem dL_law_773 : decode cL_law 773 = .ok (.invokevirtual 99, 3) := by decide +kernel
theorem dL_law_776 : decode cL_law 776 = .ok (.aload_n 2, 1) := by decide +kernel
theorem dL_law_777 : decode cL_law 777 = .ok (.aload_n 0, 1) := by decide +kernel
theorem dL_law_778 : decode cL_law 778 = .ok (.iload_n 3, 1) := by decide +kernel
theorem dL_law_779 : decode cL_law 779 = .ok (.iconst 1, 1) := by decide +kernel
theorem dL_law_780 : decode cL_law 780 = .ok (.iadd, 1) := by decide +kernel
theorem dL_law_781 : decode cL_law 781 = .ok (.iaload, 1) := by decide +kernel
theorem dL_law_782 : decode cL_law 782 = .ok (.aload_n 0, 1) := by decide +kernel
theorem dL_law_783 : decode cL_law 783 = .ok (.iload_n 3, 1) := by decide +kernel
theorem dL_law_784 : decode cL_law 784 = .ok (.iconst 2, 1) := by decide +kernel
theorem dL_law_785 : decode cL_law 785 = .ok (.iadd, 1) := by decide +kernel
theorem dL_law_786 : decode cL_law 786 = .ok (.iaload, 1) := by decide +kernel
theorem dL_law_787 : decode cL_law 787 = .ok (.invokevirtual 102, 3) := by decide +kernel
theorem dL_law_790 : decode cL_law 790 = .ok (.if_icmp .eq 130, 3) := by decide +kernel
theorem dL_law_793 : decode cL_law 793 = .ok (.iconst 0, 1) := by decide +kernel
theorem dL_law_794 : decode cL_law 794 = .ok (.ireturn, 1) := by decide +kernel
theorem dL_law_795 : decode cL_law 795 = .ok (.aload_n 1, 1) := by decide +kernel
theorem dL_law_796 : decode cL_law 796 = .ok (.aload_n 0, 1) := by decide +kernel
theorem dL_law_797 : decode cL_law 797 = .ok (.iload_n 3, 1) := by decide +kernel
theorem dL_law_798 : decode cL_law 798 = .ok (.iconst 1, 1) := by decide +kernel
theorem dL_law_799 : decode cL_law 799 = .ok (.iadd, 1) := by decide +kernel
theorem dL_law_800 : decode cL_law 800 = .ok (.iaload, 1) := by decide +kernel
theorem dL_law_801 : decode cL_law 801 = .ok (.invokevirtual 103, 3) := by decide +kernel
theorem dL_law_804 : decode cL_law 804 = .ok (.aload_n 2, 1) := by decide +kernel
theorem dL_law_805 : decode cL_law 805 = .ok (.aload_n 0, 1) := by decide +kernel
theorem dL_law_806 : decode cL_law 806 = .ok (.iload_n 3, 1) := by decide +kernel
theorem dL_law_807 : decode cL_law 807 = .ok (.iconst 1, 1) := by decide +kernel
theorem dL_law_808 : decode cL_law 808 = .ok (.iadd, 1) := by decide +kernel
theorem dL_law_809 : decode cL_law 809 = .ok (.iaload, 1) := by decide +kernel
theorem dL_law_810 : decode cL_law 810 = .ok (.invokevirtual 106, 3) := by decide +kernel
theorem dL_law_813 : decode cL_law 813 = .ok (.if_icmp .eq 107, 3) := by decide +kernel
theorem dL_law_816 : decode cL_law 816 = .ok (.iconst 0, 1) := by decide +kernel
theorem dL_law_817 : decode cL_law 817 = .ok (.ireturn, 1) := by decide +kernel
theorem dL_law_818 : decode cL_law 818 = .ok (.aload_n 1, 1) := by decide +kernel
theorem dL_law_819 : decode cL_law 819 = .ok (.aload_n 0, 1) := by decide +kernel
theorem dL_law_820 : decode cL_law 820 = .ok (.iload_n 3, 1) := by decide +kernel
theorem dL_law_821 : decode cL_law 821 = .ok (.iconst 1, 1) := by decide +kernel
theorem dL_law_822 : decode cL_law 822 = .ok (.iadd, 1) := by decide +kernel
theorem dL_law_823 : decode cL_law 823 = .ok (.iaload, 1) := by decide +kernel
theorem dL_law_824 : decode cL_law 824 = .ok (.aload_n 0, 1) := by decide +kernel
theorem dL_law_825 : decode cL_law 825 = .ok (.iload_n 3, 1) := by decide +kernel
theorem dL_law_826 : decode cL_law 826 = .ok (.iconst 2, 1) := by decide +kernel
theorem dL_law_827 : decode cL_law 827 = .ok (.iadd, 1) := by decide +kernel
theorem dL_law_828 : decode cL_law 828 = .ok (.iaload, 1) := by decide +kernel
theorem dL_law_829 : decode cL_law 829 = .ok (.invokevirtual 107, 3) := by decide +kernel
theorem dL_law_832 : decode cL_law 832 = .ok (.aload_n 2, 1) := by decide +kernel
theorem dL_law_833 : decode cL_law 833 = .ok (.aload_n 0, 1) := by decide +kernel
theorem dL_law_834 : decode cL_law 834 = .ok (.iload_n 3, 1) := by decide +kernel
theorem dL_law_835 : decode cL_law 835 = .ok (.iconst 1, 1) := by decide +kernel
theorem dL_law_836 : decode cL_law 836 = .ok (.iadd, 1) := by decide +kernel
theorem dL_law_837 : decode cL_law 837 = .ok (.iaload, 1) := by decide +kernel
theorem dL_law_838 : decode cL_law 838 = .ok (.aload_n 0, 1) := by decide +kernel
theorem dL_law_839 : decode cL_law 839 = .ok (.iload_n 3, 1) := by decide +kernel
theorem dL_law_840 : decode cL_law 840 = .ok (.iconst 2, 1) := by decide +kernel
theorem dL_law_841 : decode cL_law 841 = .ok (.iadd, 1) := by decide +kernel
theorem dL_law_842 : decode cL_law 842 = .ok (.iaload, 1) := by decide +kernel
theorem dL_law_843 : decode cL_law 843 = .ok (.invokevirtual 110, 3) := by decide +kernel
theorem dL_law_846 : decode cL_law 846 = .ok (.if_icmp .eq 74, 3) := by decide +kernel
theorem dL_law_849 : decode cL_law 849 = .ok (.iconst 0, 1) := by decide +kernel
theorem dL_law_850 : decode cL_law 850 = .ok (.ireturn, 1) := by decide +kernel
theorem dL_law_851 : decode cL_law 851 = .ok (.aload_n 1, 1) := by decide +kernel
theorem dL_law_852 : decode cL_law 852 = .ok (.aload_n 0, 1) := by decide +kernel
theorem dL_law_853 : decode cL_law 853 = .ok (.iload_n 3, 1) := by decide +kernel
theorem dL_law_854 : decode cL_law 854 = .ok (.iconst 1, 1) := by decide +kernel
theorem dL_law_855 : decode cL_law 855 = .ok (.iadd, 1) := by decide +kernel
theorem dL_law_856 : decode cL_law 856 = .ok (.iaload, 1) := by decide +kernel
theorem dL_law_857 : decode cL_law 857 = .ok (.invokevirtual 111, 3) := by decide +kernel
theorem dL_law_860 : decode cL_law 860 = .ok (.aload_n 2, 1) := by decide +kernel
theorem dL_law_861 : decode cL_law 861 = .ok (.aload_n 0, 1) := by decide +kernel
theorem dL_law_862 : decode cL_law 862 = .ok (.iload_n 3, 1) := by decide +kernel
theorem dL_law_863 : decode cL_law 863 = .ok (.iconst 1, 1) := by decide +kernel
theorem dL_law_864 : decode cL_law 864 = .ok (.iadd, 1) := by decide +kernel
theorem dL_law_865 : decode cL_law 865 = .ok (.iaload, 1) := by decide +kernel
theorem dL_law_866 : decode cL_law 866 = .ok (.invokevirtual 114, 3) := by decide +kernel
theorem dL_law_869 : decode cL_law 869 = .ok (.if_icmp .eq 51, 3) := by decide +kernel
theorem dL_law_872 : decode cL_law 872 = .ok (.iconst 0, 1) := by decide +kernel
theorem dL_law_873 : decode cL_law 873 = .ok (.ireturn, 1) := by decide +kernel
theorem dL_law_874 : decode cL_law 874 = .ok (.aload_n 1, 1) := by decide +kernel
theorem dL_law_875 : decode cL_law 875 = .ok (.aload_n 0, 1) := by decide +kernel
theorem dL_law_876 : decode cL_law 876 = .ok (.iload_n 3, 1) := by decide +kernel
theorem dL_law_877 : decode cL_law 877 = .ok (.iconst 1, 1) := by decide +kernel
theorem dL_law_878 : decode cL_law 878 = .ok (.iadd, 1) := by decide +kernel
theorem dL_law_879 : decode cL_law 879 = .ok (.iaload, 1) := by decide +kernel
theorem dL_law_880 : decode cL_law 880 = .ok (.invokevirtual 115, 3) := by decide +kernel
theorem dL_law_883 : decode cL_law 883 = .ok (.aload_n 2, 1) := by decide +kernel
theorem dL_law_884 : decode cL_law 884 = .ok (.aload_n 0, 1) := by decide +kernel
theorem dL_law_885 : decode cL_law 885 = .ok (.iload_n 3, 1) := by decide +kernel
theorem dL_law_886 : decode cL_law 886 = .ok (.iconst 1, 1) := by decide +kernel
theorem dL_law_887 : decode cL_law 887 = .ok (.iadd, 1) := by decide +kernel
theorem dL_law_888 : decode cL_law 888 = .ok (.iaload, 1) := by decide +kernel
theorem dL_law_889 : decode cL_law 889 = .ok (.invokevirtual 118, 3) := by decide +kernel
theorem dL_law_892 : decode cL_law 892 = .ok (.if_icmp .eq 28, 3) := by decide +kernel
theorem dL_law_895 : decode cL_law 895 = .ok (.iconst 0, 1) := by decide +kernel
theorem dL_law_896 : decode cL_law 896 = .ok (.ireturn, 1) := by decide +kernel
theorem dL_law_897 : decode cL_law 897 = .ok (.aload_n 1, 1) := by decide +kernel
theorem dL_law_898 : decode cL_law 898 = .ok (.aload_n 0, 1) := by decide +kernel
theorem dL_law_899 : decode cL_law 899 = .ok (.iload_n 3, 1) := by decide +kernel
theorem dL_law_900 : decode cL_law 900 = .ok (.iconst 1, 1) := by decide +kernel
theorem dL_law_901 : decode cL_law 901 = .ok (.iadd, 1) := by decide +kernel
theorem dL_law_902 : decode cL_law 902 = .ok (.iaload, 1) := by decide +kernel
theorem dL_law_903 : decode cL_law 903 = .ok (.invokevirtual 119, 3) := by decide +kernel
theorem dL_law_906 : decode cL_law 906 = .ok (.aload_n 2, 1) := by decide +kernel
theorem dL_law_907 : decode cL_law 907 = .ok (.aload_n 0, 1) := by decide +kernel
theorem dL_law_908 : decode cL_law 908 = .ok (.iload_n 3, 1) := by decide +kernel
theorem dL_law_909 : decode cL_law 909 = .ok (.iconst 1, 1) := by decide +kernel
theorem dL_law_910 : decode cL_law 910 = .ok (.iadd, 1) := by decide +kernel
theorem dL_law_911 : decode cL_law 911 = .ok (.iaload, 1) := by decide +kernel
theorem dL_law_912 : decode cL_law 912 = .ok (.invokevirtual 122, 3) := by decide +kernel
theorem dL_law_915 : decode cL_law 915 = .ok (.if_icmp .eq 5, 3) := by decide +kernel
theorem dL_law_918 : decode cL_law 918 = .ok (.iconst 0, 1) := by decide +kernel
theorem dL_law_919 : decode cL_law 919 = .ok (.ireturn, 1) := by decide +kernel
theorem dL_law_920 : decode cL_law 920 = .ok (.iinc 3 6, 3) := by decide +kernel
theorem dL_law_923 : decode cL_law 923 = .ok (.goto (-905), 3) := by decide +kernel
theorem dL_law_926 : decode cL_law 926 = .ok (.iconst 1, 1) := by decide +kernel
theorem dL_law_927 : decode cL_law 927 = .ok (.ireturn, 1) := by decide +kernel
