theorem dX0_init_0 : decode cX0_init 0 = .ok (.aload_n 0, 1) := by decide +kernel
theorem dX0_init_1 : decode cX0_init 1 = .ok (.invokespecial 3, 3) := by decide +kernel
theorem dX0_init_4 : decode cX0_init 4 = .ok (.return_, 1) := by decide +kernel
theorem dX0_detail_0 : decode cX0_detail 0 = .ok (.iload_n 1, 1) := by decide +kernel
theorem dX0_detail_1 : decode cX0_detail 1 = .ok (.tableswitch 102 0 7 #[47, 52, 57, 62, 67, 72, 77, 82], 47) := by decide +kernel
theorem dX0_detail_48 : decode cX0_detail 48 = .ok (.aload_n 0, 1) := by decide +kernel
theorem dX0_detail_49 : decode cX0_detail 49 = .ok (.getfield 9, 3) := by decide +kernel
theorem dX0_detail_52 : decode cX0_detail 52 = .ok (.ireturn, 1) := by decide +kernel
theorem dX0_detail_53 : decode cX0_detail 53 = .ok (.aload_n 0, 1) := by decide +kernel
theorem dX0_detail_54 : decode cX0_detail 54 = .ok (.getfield 15, 3) := by decide +kernel
theorem dX0_detail_57 : decode cX0_detail 57 = .ok (.ireturn, 1) := by decide +kernel
theorem dX0_detail_58 : decode cX0_detail 58 = .ok (.aload_n 0, 1) := by decide +kernel
theorem dX0_detail_59 : decode cX0_detail 59 = .ok (.getfield 18, 3) := by decide +kernel
theorem dX0_detail_62 : decode cX0_detail 62 = .ok (.ireturn, 1) := by decide +kernel
theorem dX0_detail_63 : decode cX0_detail 63 = .ok (.aload_n 0, 1) := by decide +kernel
theorem dX0_detail_64 : decode cX0_detail 64 = .ok (.getfield 21, 3) := by decide +kernel
theorem dX0_detail_67 : decode cX0_detail 67 = .ok (.ireturn, 1) := by decide +kernel
theorem dX0_detail_68 : decode cX0_detail 68 = .ok (.aload_n 0, 1) := by decide +kernel
theorem dX0_detail_69 : decode cX0_detail 69 = .ok (.getfield 24, 3) := by decide +kernel
theorem dX0_detail_72 : decode cX0_detail 72 = .ok (.ireturn, 1) := by decide +kernel
theorem dX0_detail_73 : decode cX0_detail 73 = .ok (.aload_n 0, 1) := by decide +kernel
theorem dX0_detail_74 : decode cX0_detail 74 = .ok (.getfield 27, 3) := by decide +kernel
theorem dX0_detail_77 : decode cX0_detail 77 = .ok (.ireturn, 1) := by decide +kernel
theorem dX0_detail_78 : decode cX0_detail 78 = .ok (.aload_n 0, 1) := by decide +kernel
theorem dX0_detail_79 : decode cX0_detail 79 = .ok (.getfield 30, 3) := by decide +kernel
theorem dX0_detail_82 : decode cX0_detail 82 = .ok (.ireturn, 1) := by decide +kernel
theorem dX0_detail_83 : decode cX0_detail 83 = .ok (.aload_n 0, 1) := by decide +kernel
theorem dX0_detail_84 : decode cX0_detail 84 = .ok (.getfield 33, 3) := by decide +kernel
theorem dX0_detail_87 : decode cX0_detail 87 = .ok (.ifnonnull 8, 3) := by decide +kernel
theorem dX0_detail_90 : decode cX0_detail 90 = .ok (.bipush (-6), 2) := by decide +kernel
theorem dX0_detail_92 : decode cX0_detail 92 = .ok (.goto 10, 3) := by decide +kernel
theorem dX0_detail_95 : decode cX0_detail 95 = .ok (.aload_n 0, 1) := by decide +kernel
theorem dX0_detail_96 : decode cX0_detail 96 = .ok (.getfield 33, 3) := by decide +kernel
theorem dX0_detail_99 : decode cX0_detail 99 = .ok (.getfield 37, 3) := by decide +kernel
theorem dX0_detail_102 : decode cX0_detail 102 = .ok (.ireturn, 1) := by decide +kernel
theorem dX0_detail_103 : decode cX0_detail 103 = .ok (.bipush (-2), 2) := by decide +kernel
theorem dX0_detail_105 : decode cX0_detail 105 = .ok (.ireturn, 1) := by decide +kernel
set_option maxRecDepth 20000 in
theorem ggX1_init_X3_init : GoodIn wsX1_init wsX3_init := goodIn_r _ [7, 8, 9, 10, 11, 12, 13, 14, 15, 16, 17, 18, 19, 20, 21, 22, 23, 24, 25, 26, 27, 28, 29, 30, 31, 32, 33, 34, 35, 36, 37, 38, 39, 40, 41] (by decide +kernel) (by decide +kernel)
set_option maxRecDepth 20000 in
theorem gX1_init_X3_init : GoodIn wsX1_init (wsX3_init) := ggX1_init_X3_init
theorem dX1_init_0 : decode cX1_init 0 = .ok (.aload_n 0, 1) := by decide +kernel
theorem dX1_init_1 : decode cX1_init 1 = .ok (.iconst 2, 1) := by decide +kernel
theorem dX1_init_2 : decode cX1_init 2 = .ok (.iload_n 1, 1) := by decide +kernel
theorem dX1_init_3 : decode cX1_init 3 = .ok (.iload_n 2, 1) := by decide +kernel
theorem dX1_init_4 : decode cX1_init 4 = .ok (.iload_n 3, 1) := by decide +kernel
theorem dX1_init_5 : decode cX1_init 5 = .ok (.invokespecial 3, 3) := by decide +kernel
theorem dX1_init_8 : decode cX1_init 8 = .ok (.aload_n 0, 1) := by decide +kernel
theorem dX1_init_9 : decode cX1_init 9 = .ok (.iload 4, 2) := by decide +kernel
theorem dX1_init_11 : decode cX1_init 11 = .ok (.putfield 9, 3) := by decide +kernel
theorem dX1_init_14 : decode cX1_init 14 = .ok (.aload_n 0, 1) := by decide +kernel
theorem dX1_init_15 : decode cX1_init 15 = .ok (.iload 5, 2) := by decide +kernel
theorem dX1_init_17 : decode cX1_init 17 = .ok (.putfield 15, 3) := by decide +kernel
theorem dX1_init_20 : decode cX1_init 20 = .ok (.aload_n 0, 1) := by decide +kernel
theorem dX1_init_21 : decode cX1_init 21 = .ok (.iload 6, 2) := by decide +kernel
theorem dX1_init_23 : decode cX1_init 23 = .ok (.putfield 18, 3) := by decide +kernel
theorem dX1_init_26 : decode cX1_init 26 = .ok (.return_, 1) := by decide +kernel
theorem dX1_detail_0 : decode cX1_detail 0 = .ok (.iload_n 1, 1) := by decide +kernel
theorem dX1_detail_1 : decode cX1_detail 1 = .ok (.tableswitch 51 0 3 #[31, 36, 41, 46], 31) := by decide +kernel
theorem dX1_detail_32 : decode cX1_detail 32 = .ok (.aload_n 0, 1) := by decide +kernel
theorem dX1_detail_33 : decode cX1_detail 33 = .ok (.getfield 9, 3) := by decide +kernel
theorem dX1_detail_36 : decode cX1_detail 36 = .ok (.ireturn, 1) := by decide +kernel
theorem dX1_detail_37 : decode cX1_detail 37 = .ok (.aload_n 0, 1) := by decide +kernel
theorem dX1_detail_38 : decode cX1_detail 38 = .ok (.getfield 15, 3) := by decide +kernel
theorem dX1_detail_41 : decode cX1_detail 41 = .ok (.ireturn, 1) := by decide +kernel
theorem dX1_detail_42 : decode cX1_detail 42 = .ok (.aload_n 0, 1) := by decide +kernel
theorem dX1_detail_43 : decode cX1_detail 43 = .ok (.getfield 18, 3) := by decide +kernel
theorem dX1_detail_46 : decode cX1_detail 46 = .ok (.ireturn, 1) := by decide +kernel
theorem dX1_detail_47 : decode cX1_detail 47 = .ok (.aload_n 0, 1) := by decide +kernel
theorem dX1_detail_48 : decode cX1_detail 48 = .ok (.getfield 21, 3) := by decide +kernel
theorem dX1_detail_51 : decode cX1_detail 51 = .ok (.ireturn, 1) := by decide +kernel
theorem dX1_detail_52 : decode cX1_detail 52 = .ok (.bipush (-2), 2) := by decide +kernel
theorem dX1_detail_54 : decode cX1_detail 54 = .ok (.ireturn, 1) := by decide +kernel
theorem dX2_init_0 : decode cX2_init 0 = .ok (.aload_n 0, 1) := by decide +kernel
theorem dX2_init_1 : decode cX2_init 1 = .ok (.invokespecial 3, 3) := by decide +kernel
theorem dX2_init_4 : decode cX2_init 4 = .ok (.aload_n 0, 1) := by decide +kernel
theorem dX2_init_5 : decode cX2_init 5 = .ok (.sipush 200, 3) := by decide +kernel
theorem dX2_init_8 : decode cX2_init 8 = .ok (.anewarray 9, 3) := by decide +kernel
theorem dX2_init_11 : decode cX2_init 11 = .ok (.putfield 11, 3) := by decide +kernel
theorem dX2_init_14 : decode cX2_init 14 = .ok (.aload_n 0, 1) := by decide +kernel
theorem dX2_init_15 : decode cX2_init 15 = .ok (.sipush 200, 3) := by decide +kernel
theorem dX2_init_18 : decode cX2_init 18 = .ok (.anewarray 17, 3) := by decide +kernel
theorem dX2_init_21 : decode cX2_init 21 = .ok (.putfield 19, 3) := by decide +kernel
theorem dX2_init_24 : decode cX2_init 24 = .ok (.aload_n 0, 1) := by decide +kernel
theorem dX2_init_25 : decode cX2_init 25 = .ok (.sipush 200, 3) := by decide +kernel
theorem dX2_init_28 : decode cX2_init 28 = .ok (.newarray .int, 2) := by decide +kernel
theorem dX2_init_30 : decode cX2_init 30 = .ok (.putfield 23, 3) := by decide +kernel
theorem dX2_init_33 : decode cX2_init 33 = .ok (.aload_n 0, 1) := by decide +kernel
theorem dX2_init_34 : decode cX2_init 34 = .ok (.sipush 200, 3) := by decide +kernel
theorem dX2_init_37 : decode cX2_init 37 = .ok (.newarray .int, 2) := by decide +kernel
theorem dX2_init_39 : decode cX2_init 39 = .ok (.putfield 27, 3) := by decide +kernel
theorem dX2_init_42 : decode cX2_init 42 = .ok (.return_, 1) := by decide +kernel
theorem dX2_isFull_0 : decode cX2_isFull 0 = .ok (.aload_n 0, 1) := by decide +kernel
theorem dX2_isFull_1 : decode cX2_isFull 1 = .ok (.getfield 30, 3) := by decide +kernel
theorem dX2_isFull_4 : decode cX2_isFull 4 = .ok (.sipush 200, 3) := by decide +kernel
theorem dX2_isFull_7 : decode cX2_isFull 7 = .ok (.if_icmp .lt 7, 3) := by decide +kernel
theorem dX2_isFull_10 : decode cX2_isFull 10 = .ok (.iconst 1, 1) := by decide +kernel
theorem dX2_isFull_11 : decode cX2_isFull 11 = .ok (.goto 4, 3) := by decide +kernel
theorem dX2_isFull_14 : decode cX2_isFull 14 = .ok (.iconst 0, 1) := by decide +kernel
theorem dX2_isFull_15 : decode cX2_isFull 15 = .ok (.ireturn, 1) := by decide +kernel
set_option maxRecDepth 20000 in
theorem ggX2_enter_X2_isFull : GoodIn wsX2_enter wsX2_isFull := goodIn_r _ [7, 2, 8, 9, 10, 11, 12, 13, 14] (by decide +kernel) (by decide +kernel)
set_option maxRecDepth 20000 in
theorem gX2_enter_X2_isFull : GoodIn wsX2_enter (wsV RX2 34 RX2 yX2_isFull wsX2_isFull) := goodIn_app (goodIn_of _ (by decide +kernel)) ggX2_enter_X2_isFull
theorem dX2_enter_0 : decode cX2_enter 0 = .ok (.aload_n 0, 1) := by decide +kernel
theorem dX2_enter_1 : decode cX2_enter 1 = .ok (.invokevirtual 34, 3) := by decide +kernel
theorem dX2_enter_4 : decode cX2_enter 4 = .ok (.ifCond .ne 23, 3) := by decide +kernel
theorem dX2_enter_7 : decode cX2_enter 7 = .ok (.aload_n 0, 1) := by decide +kernel
theorem dX2_enter_8 : decode cX2_enter 8 = .ok (.getfield 11, 3) := by decide +kernel
theorem dX2_enter_11 : decode cX2_enter 11 = .ok (.aload_n 0, 1) := by decide +kernel
theorem dX2_enter_12 : decode cX2_enter 12 = .ok (.getfield 30, 3) := by decide +kernel
theorem dX2_enter_15 : decode cX2_enter 15 = .ok (.aload_n 1, 1) := by decide +kernel
theorem dX2_enter_16 : decode cX2_enter 16 = .ok (.aastore, 1) := by decide +kernel
theorem dX2_enter_17 : decode cX2_enter 17 = .ok (.aload_n 0, 1) := by decide +kernel
theorem dX2_enter_18 : decode cX2_enter 18 = .ok (.dup, 1) := by decide +kernel
theorem dX2_enter_19 : decode cX2_enter 19 = .ok (.getfield 30, 3) := by decide +kernel
theorem dX2_enter_22 : decode cX2_enter 22 = .ok (.iconst 1, 1) := by decide +kernel
theorem dX2_enter_23 : decode cX2_enter 23 = .ok (.iadd, 1) := by decide +kernel
theorem dX2_enter_24 : decode cX2_enter 24 = .ok (.putfield 30, 3) := by decide +kernel
theorem dX2_enter_27 : decode cX2_enter 27 = .ok (.return_, 1) := by decide +kernel
theorem dX2_entryAt_0 : decode cX2_entryAt 0 = .ok (.iload_n 1, 1) := by decide +kernel
theorem dX2_entryAt_1 : decode cX2_entryAt 1 = .ok (.ifCond .lt 11, 3) := by decide +kernel
theorem dX2_entryAt_4 : decode cX2_entryAt 4 = .ok (.iload_n 1, 1) := by decide +kernel
theorem dX2_entryAt_5 : decode cX2_entryAt 5 = .ok (.aload_n 0, 1) := by decide +kernel
theorem dX2_entryAt_6 : decode cX2_entryAt 6 = .ok (.getfield 30, 3) := by decide +kernel
theorem dX2_entryAt_9 : decode cX2_entryAt 9 = .ok (.if_icmp .lt 7, 3) := by decide +kernel
theorem dX2_entryAt_12 : decode cX2_entryAt 12 = .ok (.aconst_null, 1) := by decide +kernel
theorem dX2_entryAt_13 : decode cX2_entryAt 13 = .ok (.goto 9, 3) := by decide +kernel
theorem dX2_entryAt_16 : decode cX2_entryAt 16 = .ok (.aload_n 0, 1) := by decide +kernel
theorem dX2_entryAt_17 : decode cX2_entryAt 17 = .ok (.getfield 11, 3) := by decide +kernel
theorem dX2_entryAt_20 : decode cX2_entryAt 20 = .ok (.iload_n 1, 1) := by decide +kernel
theorem dX2_entryAt_21 : decode cX2_entryAt 21 = .ok (.aaload, 1) := by decide +kernel
theorem dX2_entryAt_22 : decode cX2_entryAt 22 = .ok (.areturn, 1) := by decide +kernel
theorem dX2_queueFlour_0 : decode cX2_queueFlour 0 = .ok (.aload_n 0, 1) := by decide +kernel
theorem dX2_queueFlour_1 : decode cX2_queueFlour 1 = .ok (.getfield 38, 3) := by decide +kernel
theorem dX2_queueFlour_4 : decode cX2_queueFlour 4 = .ok (.sipush 200, 3) := by decide +kernel
theorem dX2_queueFlour_7 : decode cX2_queueFlour 7 = .ok (.if_icmp .ge 23, 3) := by decide +kernel
theorem dX2_queueFlour_10 : decode cX2_queueFlour 10 = .ok (.aload_n 0, 1) := by decide +kernel
theorem dX2_queueFlour_11 : decode cX2_queueFlour 11 = .ok (.getfield 19, 3) := by decide +kernel
theorem dX2_queueFlour_14 : decode cX2_queueFlour 14 = .ok (.aload_n 0, 1) := by decide +kernel
theorem dX2_queueFlour_15 : decode cX2_queueFlour 15 = .ok (.getfield 38, 3) := by decide +kernel
theorem dX2_queueFlour_18 : decode cX2_queueFlour 18 = .ok (.aload_n 1, 1) := by decide +kernel
theorem dX2_queueFlour_19 : decode cX2_queueFlour 19 = .ok (.aastore, 1) := by decide +kernel
theorem dX2_queueFlour_20 : decode cX2_queueFlour 20 = .ok (.aload_n 0, 1) := by decide +kernel
theorem dX2_queueFlour_21 : decode cX2_queueFlour 21 = .ok (.dup, 1) := by decide +kernel
theorem dX2_queueFlour_22 : decode cX2_queueFlour 22 = .ok (.getfield 38, 3) := by decide +kernel
theorem dX2_queueFlour_25 : decode cX2_queueFlour 25 = .ok (.iconst 1, 1) := by decide +kernel
theorem dX2_queueFlour_26 : decode cX2_queueFlour 26 = .ok (.iadd, 1) := by decide +kernel
theorem dX2_queueFlour_27 : decode cX2_queueFlour 27 = .ok (.putfield 38, 3) := by decide +kernel
theorem dX2_queueFlour_30 : decode cX2_queueFlour 30 = .ok (.return_, 1) := by decide +kernel
set_option maxRecDepth 20000 in
theorem ggX2_takeFlour_X2_noteGift : GoodIn wsX2_takeFlour wsX2_noteGift := goodIn_r _ [20, 3, 21, 22, 23, 24, 25, 35, 36, 37, 38, 39, 40, 41, 26, 27, 28, 29, 30, 31, 32, 33, 34, 42, 43, 44, 45, 46, 47, 48, 49, 50, 51, 52, 53, 54, 55, 56, 57, 58, 59] (by decide +kernel) (by decide +kernel)
set_option maxRecDepth 20000 in
theorem gX2_takeFlour_X2_noteGift : GoodIn wsX2_takeFlour (wsV RX2 68 RX2 yX2_noteGift wsX2_noteGift) := goodIn_app (goodIn_of _ (by decide +kernel)) ggX2_takeFlour_X2_noteGift
theorem dX2_takeFlour_0 : decode cX2_takeFlour 0 = .ok (.aload_n 1, 1) := by decide +kernel
theorem dX2_takeFlour_1 : decode cX2_takeFlour 1 = .ok (.getfield 41, 3) := by decide +kernel
theorem dX2_takeFlour_4 : decode cX2_takeFlour 4 = .ok (.aload_n 1, 1) := by decide +kernel
theorem dX2_takeFlour_5 : decode cX2_takeFlour 5 = .ok (.getfield 46, 3) := by decide +kernel
theorem dX2_takeFlour_8 : decode cX2_takeFlour 8 = .ok (.imul, 1) := by decide +kernel
theorem dX2_takeFlour_9 : decode cX2_takeFlour 9 = .ok (.istore_n 2, 1) := by decide +kernel
theorem dX2_takeFlour_10 : decode cX2_takeFlour 10 = .ok (.aload_n 1, 1) := by decide +kernel
theorem dX2_takeFlour_11 : decode cX2_takeFlour 11 = .ok (.aload_n 0, 1) := by decide +kernel
theorem dX2_takeFlour_12 : decode cX2_takeFlour 12 = .ok (.getfield 49, 3) := by decide +kernel
theorem dX2_takeFlour_15 : decode cX2_takeFlour 15 = .ok (.putfield 52, 3) := by decide +kernel
theorem dX2_takeFlour_18 : decode cX2_takeFlour 18 = .ok (.iconst 0, 1) := by decide +kernel
theorem dX2_takeFlour_19 : decode cX2_takeFlour 19 = .ok (.istore_n 3, 1) := by decide +kernel
theorem dX2_takeFlour_20 : decode cX2_takeFlour 20 = .ok (.iload_n 3, 1) := by decide +kernel
theorem dX2_takeFlour_21 : decode cX2_takeFlour 21 = .ok (.aload_n 0, 1) := by decide +kernel
theorem dX2_takeFlour_22 : decode cX2_takeFlour 22 = .ok (.getfield 38, 3) := by decide +kernel
theorem dX2_takeFlour_25 : decode cX2_takeFlour 25 = .ok (.if_icmp .ge 83, 3) := by decide +kernel
theorem dX2_takeFlour_28 : decode cX2_takeFlour 28 = .ok (.iload_n 2, 1) := by decide +kernel
theorem dX2_takeFlour_29 : decode cX2_takeFlour 29 = .ok (.ifCond .le 79, 3) := by decide +kernel
theorem dX2_takeFlour_32 : decode cX2_takeFlour 32 = .ok (.aload_n 0, 1) := by decide +kernel
theorem dX2_takeFlour_33 : decode cX2_takeFlour 33 = .ok (.getfield 19, 3) := by decide +kernel
theorem dX2_takeFlour_36 : decode cX2_takeFlour 36 = .ok (.iload_n 3, 1) := by decide +kernel
theorem dX2_takeFlour_37 : decode cX2_takeFlour 37 = .ok (.aaload, 1) := by decide +kernel
theorem dX2_takeFlour_38 : decode cX2_takeFlour 38 = .ok (.astore 4, 2) := by decide +kernel
theorem dX2_takeFlour_40 : decode cX2_takeFlour 40 = .ok (.aload 4, 2) := by decide +kernel
theorem dX2_takeFlour_42 : decode cX2_takeFlour 42 = .ok (.ifnull 60, 3) := by decide +kernel
theorem dX2_takeFlour_45 : decode cX2_takeFlour 45 = .ok (.aload 4, 2) := by decide +kernel
theorem dX2_takeFlour_47 : decode cX2_takeFlour 47 = .ok (.getfield 55, 3) := by decide +kernel
theorem dX2_takeFlour_50 : decode cX2_takeFlour 50 = .ok (.aload_n 1, 1) := by decide +kernel
theorem dX2_takeFlour_51 : decode cX2_takeFlour 51 = .ok (.getfield 58, 3) := by decide +kernel
theorem dX2_takeFlour_54 : decode cX2_takeFlour 54 = .ok (.if_icmp .ne 48, 3) := by decide +kernel
theorem dX2_takeFlour_57 : decode cX2_takeFlour 57 = .ok (.aload 4, 2) := by decide +kernel
theorem dX2_takeFlour_59 : decode cX2_takeFlour 59 = .ok (.getfield 59, 3) := by decide +kernel
theorem dX2_takeFlour_62 : decode cX2_takeFlour 62 = .ok (.ifCond .le 40, 3) := by decide +kernel
theorem dX2_takeFlour_65 : decode cX2_takeFlour 65 = .ok (.iload_n 2, 1) := by decide +kernel
theorem dX2_takeFlour_66 : decode cX2_takeFlour 66 = .ok (.aload 4, 2) := by decide +kernel
theorem dX2_takeFlour_68 : decode cX2_takeFlour 68 = .ok (.getfield 59, 3) := by decide +kernel
theorem dX2_takeFlour_71 : decode cX2_takeFlour 71 = .ok (.invokestatic 62, 3) := by decide +kernel
theorem dX2_takeFlour_74 : decode cX2_takeFlour 74 = .ok (.istore 5, 2) := by decide +kernel
theorem dX2_takeFlour_76 : decode cX2_takeFlour 76 = .ok (.aload 4, 2) := by decide +kernel
theorem dX2_takeFlour_78 : decode cX2_takeFlour 78 = .ok (.dup, 1) := by decide +kernel
theorem dX2_takeFlour_79 : decode cX2_takeFlour 79 = .ok (.getfield 59, 3) := by decide +kernel
theorem dX2_takeFlour_82 : decode cX2_takeFlour 82 = .ok (.iload 5, 2) := by decide +kernel
theorem dX2_takeFlour_84 : decode cX2_takeFlour 84 = .ok (.isub, 1) := by decide +kernel
theorem dX2_takeFlour_85 : decode cX2_takeFlour 85 = .ok (.putfield 59, 3) := by decide +kernel
theorem dX2_takeFlour_88 : decode cX2_takeFlour 88 = .ok (.iload_n 2, 1) := by decide +kernel
theorem dX2_takeFlour_89 : decode cX2_takeFlour 89 = .ok (.iload 5, 2) := by decide +kernel
theorem dX2_takeFlour_91 : decode cX2_takeFlour 91 = .ok (.isub, 1) := by decide +kernel
theorem dX2_takeFlour_92 : decode cX2_takeFlour 92 = .ok (.istore_n 2, 1) := by decide +kernel
theorem dX2_takeFlour_93 : decode cX2_takeFlour 93 = .ok (.aload_n 0, 1) := by decide +kernel
theorem dX2_takeFlour_94 : decode cX2_takeFlour 94 = .ok (.aload_n 1, 1) := by decide +kernel
theorem dX2_takeFlour_95 : decode cX2_takeFlour 95 = .ok (.aload 4, 2) := by decide +kernel
theorem dX2_takeFlour_97 : decode cX2_takeFlour 97 = .ok (.iload 5, 2) := by decide +kernel
theorem dX2_takeFlour_99 : decode cX2_takeFlour 99 = .ok (.invokevirtual 68, 3) := by decide +kernel
theorem dX2_takeFlour_102 : decode cX2_takeFlour 102 = .ok (.iinc 3 1, 3) := by decide +kernel
theorem dX2_takeFlour_105 : decode cX2_takeFlour 105 = .ok (.goto (-85), 3) := by decide +kernel
theorem dX2_takeFlour_108 : decode cX2_takeFlour 108 = .ok (.return_, 1) := by decide +kernel
theorem dX2_noteGift_0 : decode cX2_noteGift 0 = .ok (.aload_n 0, 1) := by decide +kernel
theorem dX2_noteGift_1 : decode cX2_noteGift 1 = .ok (.getfield 49, 3) := by decide +kernel
theorem dX2_noteGift_4 : decode cX2_noteGift 4 = .ok (.sipush 200, 3) := by decide +kernel
theorem dX2_noteGift_7 : decode cX2_noteGift 7 = .ok (.if_icmp .ge 46, 3) := by decide +kernel
theorem dX2_noteGift_10 : decode cX2_noteGift 10 = .ok (.aload_n 0, 1) := by decide +kernel
theorem dX2_noteGift_11 : decode cX2_noteGift 11 = .ok (.getfield 23, 3) := by decide +kernel
theorem dX2_noteGift_14 : decode cX2_noteGift 14 = .ok (.aload_n 0, 1) := by decide +kernel
theorem dX2_noteGift_15 : decode cX2_noteGift 15 = .ok (.getfield 49, 3) := by decide +kernel
theorem dX2_noteGift_18 : decode cX2_noteGift 18 = .ok (.aload_n 2, 1) := by decide +kernel
theorem dX2_noteGift_19 : decode cX2_noteGift 19 = .ok (.getfield 72, 3) := by decide +kernel
theorem dX2_noteGift_22 : decode cX2_noteGift 22 = .ok (.iastore, 1) := by decide +kernel
theorem dX2_noteGift_23 : decode cX2_noteGift 23 = .ok (.aload_n 0, 1) := by decide +kernel
theorem dX2_noteGift_24 : decode cX2_noteGift 24 = .ok (.getfield 27, 3) := by decide +kernel
theorem dX2_noteGift_27 : decode cX2_noteGift 27 = .ok (.aload_n 0, 1) := by decide +kernel
theorem dX2_noteGift_28 : decode cX2_noteGift 28 = .ok (.getfield 49, 3) := by decide +kernel
theorem dX2_noteGift_31 : decode cX2_noteGift 31 = .ok (.iload_n 3, 1) := by decide +kernel
theorem dX2_noteGift_32 : decode cX2_noteGift 32 = .ok (.iastore, 1) := by decide +kernel
theorem dX2_noteGift_33 : decode cX2_noteGift 33 = .ok (.aload_n 0, 1) := by decide +kernel
theorem dX2_noteGift_34 : decode cX2_noteGift 34 = .ok (.dup, 1) := by decide +kernel
theorem dX2_noteGift_35 : decode cX2_noteGift 35 = .ok (.getfield 49, 3) := by decide +kernel
theorem dX2_noteGift_38 : decode cX2_noteGift 38 = .ok (.iconst 1, 1) := by decide +kernel
theorem dX2_noteGift_39 : decode cX2_noteGift 39 = .ok (.iadd, 1) := by decide +kernel
theorem dX2_noteGift_40 : decode cX2_noteGift 40 = .ok (.putfield 49, 3) := by decide +kernel
theorem dX2_noteGift_43 : decode cX2_noteGift 43 = .ok (.aload_n 1, 1) := by decide +kernel
theorem dX2_noteGift_44 : decode cX2_noteGift 44 = .ok (.dup, 1) := by decide +kernel
theorem dX2_noteGift_45 : decode cX2_noteGift 45 = .ok (.getfield 75, 3) := by decide +kernel
theorem dX2_noteGift_48 : decode cX2_noteGift 48 = .ok (.iconst 1, 1) := by decide +kernel
theorem dX2_noteGift_49 : decode cX2_noteGift 49 = .ok (.iadd, 1) := by decide +kernel
theorem dX2_noteGift_50 : decode cX2_noteGift 50 = .ok (.putfield 75, 3) := by decide +kernel
theorem dX2_noteGift_53 : decode cX2_noteGift 53 = .ok (.return_, 1) := by decide +kernel
theorem dX2_giftDetail_0 : decode cX2_giftDetail 0 = .ok (.iload_n 2, 1) := by decide +kernel
theorem dX2_giftDetail_1 : decode cX2_giftDetail 1 = .ok (.ifCond .lt 13, 3) := by decide +kernel
theorem dX2_giftDetail_4 : decode cX2_giftDetail 4 = .ok (.iload_n 2, 1) := by decide +kernel
theorem dX2_giftDetail_5 : decode cX2_giftDetail 5 = .ok (.iconst 2, 1) := by decide +kernel
theorem dX2_giftDetail_6 : decode cX2_giftDetail 6 = .ok (.idiv, 1) := by decide +kernel
theorem dX2_giftDetail_7 : decode cX2_giftDetail 7 = .ok (.aload_n 1, 1) := by decide +kernel
theorem dX2_giftDetail_8 : decode cX2_giftDetail 8 = .ok (.getfield 75, 3) := by decide +kernel
theorem dX2_giftDetail_11 : decode cX2_giftDetail 11 = .ok (.if_icmp .lt 6, 3) := by decide +kernel
theorem dX2_giftDetail_14 : decode cX2_giftDetail 14 = .ok (.bipush (-6), 2) := by decide +kernel
theorem dX2_giftDetail_16 : decode cX2_giftDetail 16 = .ok (.ireturn, 1) := by decide +kernel
theorem dX2_giftDetail_17 : decode cX2_giftDetail 17 = .ok (.aload_n 1, 1) := by decide +kernel
theorem dX2_giftDetail_18 : decode cX2_giftDetail 18 = .ok (.getfield 52, 3) := by decide +kernel
theorem dX2_giftDetail_21 : decode cX2_giftDetail 21 = .ok (.iload_n 2, 1) := by decide +kernel
theorem dX2_giftDetail_22 : decode cX2_giftDetail 22 = .ok (.iconst 2, 1) := by decide +kernel
theorem dX2_giftDetail_23 : decode cX2_giftDetail 23 = .ok (.idiv, 1) := by decide +kernel
theorem dX2_giftDetail_24 : decode cX2_giftDetail 24 = .ok (.iadd, 1) := by decide +kernel
theorem dX2_giftDetail_25 : decode cX2_giftDetail 25 = .ok (.istore_n 3, 1) := by decide +kernel
theorem dX2_giftDetail_26 : decode cX2_giftDetail 26 = .ok (.iload_n 3, 1) := by decide +kernel
theorem dX2_giftDetail_27 : decode cX2_giftDetail 27 = .ok (.ifCond .lt 11, 3) := by decide +kernel
theorem dX2_giftDetail_30 : decode cX2_giftDetail 30 = .ok (.iload_n 3, 1) := by decide +kernel
theorem dX2_giftDetail_31 : decode cX2_giftDetail 31 = .ok (.aload_n 0, 1) := by decide +kernel
theorem dX2_giftDetail_32 : decode cX2_giftDetail 32 = .ok (.getfield 49, 3) := by decide +kernel
theorem dX2_giftDetail_35 : decode cX2_giftDetail 35 = .ok (.if_icmp .lt 6, 3) := by decide +kernel
theorem dX2_giftDetail_38 : decode cX2_giftDetail 38 = .ok (.bipush (-6), 2) := by decide +kernel
theorem dX2_giftDetail_40 : decode cX2_giftDetail 40 = .ok (.ireturn, 1) := by decide +kernel
theorem dX2_giftDetail_41 : decode cX2_giftDetail 41 = .ok (.iload_n 2, 1) := by decide +kernel
theorem dX2_giftDetail_42 : decode cX2_giftDetail 42 = .ok (.iconst 2, 1) := by decide +kernel
theorem dX2_giftDetail_43 : decode cX2_giftDetail 43 = .ok (.irem, 1) := by decide +kernel
theorem dX2_giftDetail_44 : decode cX2_giftDetail 44 = .ok (.ifCond .ne 12, 3) := by decide +kernel
theorem dX2_giftDetail_47 : decode cX2_giftDetail 47 = .ok (.aload_n 0, 1) := by decide +kernel
theorem dX2_giftDetail_48 : decode cX2_giftDetail 48 = .ok (.getfield 23, 3) := by decide +kernel
theorem dX2_giftDetail_51 : decode cX2_giftDetail 51 = .ok (.iload_n 3, 1) := by decide +kernel
theorem dX2_giftDetail_52 : decode cX2_giftDetail 52 = .ok (.iaload, 1) := by decide +kernel
theorem dX2_giftDetail_53 : decode cX2_giftDetail 53 = .ok (.goto 9, 3) := by decide +kernel
theorem dX2_giftDetail_56 : decode cX2_giftDetail 56 = .ok (.aload_n 0, 1) := by decide +kernel
theorem dX2_giftDetail_57 : decode cX2_giftDetail 57 = .ok (.getfield 27, 3) := by decide +kernel
theorem dX2_giftDetail_60 : decode cX2_giftDetail 60 = .ok (.iload_n 3, 1) := by decide +kernel
theorem dX2_giftDetail_61 : decode cX2_giftDetail 61 = .ok (.iaload, 1) := by decide +kernel
theorem dX2_giftDetail_62 : decode cX2_giftDetail 62 = .ok (.ireturn, 1) := by decide +kernel
theorem dX3_init_0 : decode cX3_init 0 = .ok (.aload_n 0, 1) := by decide +kernel
theorem dX3_init_1 : decode cX3_init 1 = .ok (.invokespecial 3, 3) := by decide +kernel
theorem dX3_init_4 : decode cX3_init 4 = .ok (.aload_n 0, 1) := by decide +kernel
theorem dX3_init_5 : decode cX3_init 5 = .ok (.iload_n 1, 1) := by decide +kernel
theorem dX3_init_6 : decode cX3_init 6 = .ok (.putfield 9, 3) := by decide +kernel
theorem dX3_init_9 : decode cX3_init 9 = .ok (.aload_n 0, 1) := by decide +kernel
theorem dX3_init_10 : decode cX3_init 10 = .ok (.iload_n 2, 1) := by decide +kernel
theorem dX3_init_11 : decode cX3_init 11 = .ok (.putfield 15, 3) := by decide +kernel
theorem dX3_init_14 : decode cX3_init 14 = .ok (.aload_n 0, 1) := by decide +kernel
theorem dX3_init_15 : decode cX3_init 15 = .ok (.iload_n 3, 1) := by decide +kernel
theorem dX3_init_16 : decode cX3_init 16 = .ok (.putfield 18, 3) := by decide +kernel
theorem dX3_init_19 : decode cX3_init 19 = .ok (.aload_n 0, 1) := by decide +kernel
theorem dX3_init_20 : decode cX3_init 20 = .ok (.iload 4, 2) := by decide +kernel
theorem dX3_init_22 : decode cX3_init 22 = .ok (.putfield 21, 3) := by decide +kernel
theorem dX3_init_25 : decode cX3_init 25 = .ok (.return_, 1) := by decide +kernel
theorem dX3_week_0 : decode cX3_week 0 = .ok (.aload_n 0, 1) := by decide +kernel
theorem dX3_week_1 : decode cX3_week 1 = .ok (.getfield 18, 3) := by decide +kernel
theorem dX3_week_4 : decode cX3_week 4 = .ok (.sipush 168, 3) := by decide +kernel
theorem dX3_week_7 : decode cX3_week 7 = .ok (.idiv, 1) := by decide +kernel
theorem dX3_week_8 : decode cX3_week 8 = .ok (.ireturn, 1) := by decide +kernel
theorem dX4_init_0 : decode cX4_init 0 = .ok (.aload_n 0, 1) := by decide +kernel
theorem dX4_init_1 : decode cX4_init 1 = .ok (.invokespecial 3, 3) := by decide +kernel
theorem dX4_init_4 : decode cX4_init 4 = .ok (.aload_n 0, 1) := by decide +kernel
theorem dX4_init_5 : decode cX4_init 5 = .ok (.sipush 200, 3) := by decide +kernel
theorem dX4_init_8 : decode cX4_init 8 = .ok (.newarray .int, 2) := by decide +kernel
theorem dX4_init_10 : decode cX4_init 10 = .ok (.putfield 9, 3) := by decide +kernel
theorem dX4_init_13 : decode cX4_init 13 = .ok (.aload_n 0, 1) := by decide +kernel
theorem dX4_init_14 : decode cX4_init 14 = .ok (.sipush 200, 3) := by decide +kernel
theorem dX4_init_17 : decode cX4_init 17 = .ok (.newarray .int, 2) := by decide +kernel
theorem dX4_init_19 : decode cX4_init 19 = .ok (.putfield 15, 3) := by decide +kernel
theorem dX4_init_22 : decode cX4_init 22 = .ok (.aload_n 0, 1) := by decide +kernel
theorem dX4_init_23 : decode cX4_init 23 = .ok (.bipush 100, 2) := by decide +kernel
theorem dX4_init_25 : decode cX4_init 25 = .ok (.putfield 18, 3) := by decide +kernel
theorem dX4_init_28 : decode cX4_init 28 = .ok (.aload_n 0, 1) := by decide +kernel
theorem dX4_init_29 : decode cX4_init 29 = .ok (.bipush 100, 2) := by decide +kernel
theorem dX4_init_31 : decode cX4_init 31 = .ok (.putfield 22, 3) := by decide +kernel
theorem dX4_init_34 : decode cX4_init 34 = .ok (.return_, 1) := by decide +kernel
theorem dX4_expect_0 : decode cX4_expect 0 = .ok (.iload_n 1, 1) := by decide +kernel
theorem dX4_expect_1 : decode cX4_expect 1 = .ok (.ifCond .lt 40, 3) := by decide +kernel
theorem dX4_expect_4 : decode cX4_expect 4 = .ok (.iload_n 1, 1) := by decide +kernel
theorem dX4_expect_5 : decode cX4_expect 5 = .ok (.sipush 200, 3) := by decide +kernel
theorem dX4_expect_8 : decode cX4_expect 8 = .ok (.if_icmp .ge 33, 3) := by decide +kernel
theorem dX4_expect_11 : decode cX4_expect 11 = .ok (.aload_n 0, 1) := by decide +kernel
theorem dX4_expect_12 : decode cX4_expect 12 = .ok (.getfield 9, 3) := by decide +kernel
theorem dX4_expect_15 : decode cX4_expect 15 = .ok (.iload_n 1, 1) := by decide +kernel
theorem dX4_expect_16 : decode cX4_expect 16 = .ok (.dup2, 1) := by decide +kernel
theorem dX4_expect_17 : decode cX4_expect 17 = .ok (.iaload, 1) := by decide +kernel
theorem dX4_expect_18 : decode cX4_expect 18 = .ok (.iload_n 2, 1) := by decide +kernel
theorem dX4_expect_19 : decode cX4_expect 19 = .ok (.iadd, 1) := by decide +kernel
theorem dX4_expect_20 : decode cX4_expect 20 = .ok (.iastore, 1) := by decide +kernel
theorem dX4_expect_21 : decode cX4_expect 21 = .ok (.aload_n 0, 1) := by decide +kernel
theorem dX4_expect_22 : decode cX4_expect 22 = .ok (.getfield 15, 3) := by decide +kernel
theorem dX4_expect_25 : decode cX4_expect 25 = .ok (.iload_n 1, 1) := by decide +kernel
theorem dX4_expect_26 : decode cX4_expect 26 = .ok (.dup2, 1) := by decide +kernel
theorem dX4_expect_27 : decode cX4_expect 27 = .ok (.iaload, 1) := by decide +kernel
theorem dX4_expect_28 : decode cX4_expect 28 = .ok (.iconst 1, 1) := by decide +kernel
theorem dX4_expect_29 : decode cX4_expect 29 = .ok (.iadd, 1) := by decide +kernel
theorem dX4_expect_30 : decode cX4_expect 30 = .ok (.iastore, 1) := by decide +kernel
theorem dX4_expect_31 : decode cX4_expect 31 = .ok (.aload_n 0, 1) := by decide +kernel
theorem dX4_expect_32 : decode cX4_expect 32 = .ok (.dup, 1) := by decide +kernel
theorem dX4_expect_33 : decode cX4_expect 33 = .ok (.getfield 25, 3) := by decide +kernel
theorem dX4_expect_36 : decode cX4_expect 36 = .ok (.iconst 1, 1) := by decide +kernel
theorem dX4_expect_37 : decode cX4_expect 37 = .ok (.iadd, 1) := by decide +kernel
theorem dX4_expect_38 : decode cX4_expect 38 = .ok (.putfield 25, 3) := by decide +kernel
theorem dX4_expect_41 : decode cX4_expect 41 = .ok (.return_, 1) := by decide +kernel
theorem dX4_needWith_0 : decode cX4_needWith 0 = .ok (.aload_n 0, 1) := by decide +kernel
theorem dX4_needWith_1 : decode cX4_needWith 1 = .ok (.getfield 28, 3) := by decide +kernel
theorem dX4_needWith_4 : decode cX4_needWith 4 = .ok (.aload_n 0, 1) := by decide +kernel
theorem dX4_needWith_5 : decode cX4_needWith 5 = .ok (.getfield 18, 3) := by decide +kernel
theorem dX4_needWith_8 : decode cX4_needWith 8 = .ok (.imul, 1) := by decide +kernel
theorem dX4_needWith_9 : decode cX4_needWith 9 = .ok (.iload_n 1, 1) := by decide +kernel
theorem dX4_needWith_10 : decode cX4_needWith 10 = .ok (.imul, 1) := by decide +kernel
theorem dX4_needWith_11 : decode cX4_needWith 11 = .ok (.bipush 100, 2) := by decide +kernel
theorem dX4_needWith_13 : decode cX4_needWith 13 = .ok (.idiv, 1) := by decide +kernel
theorem dX4_needWith_14 : decode cX4_needWith 14 = .ok (.ireturn, 1) := by decide +kernel
theorem dX4_withHarvest_0 : decode cX4_withHarvest 0 = .ok (.iload_n 2, 1) := by decide +kernel
theorem dX4_withHarvest_1 : decode cX4_withHarvest 1 = .ok (.ifCond .lt 10, 3) := by decide +kernel
theorem dX4_withHarvest_4 : decode cX4_withHarvest 4 = .ok (.iload_n 2, 1) := by decide +kernel
theorem dX4_withHarvest_5 : decode cX4_withHarvest 5 = .ok (.sipush 200, 3) := by decide +kernel
theorem dX4_withHarvest_8 : decode cX4_withHarvest 8 = .ok (.if_icmp .lt 5, 3) := by decide +kernel
theorem dX4_withHarvest_11 : decode cX4_withHarvest 11 = .ok (.iload_n 1, 1) := by decide +kernel
theorem dX4_withHarvest_12 : decode cX4_withHarvest 12 = .ok (.ireturn, 1) := by decide +kernel
theorem dX4_withHarvest_13 : decode cX4_withHarvest 13 = .ok (.ldc 31, 2) := by decide +kernel
theorem dX4_withHarvest_15 : decode cX4_withHarvest 15 = .ok (.iload_n 1, 1) := by decide +kernel
theorem dX4_withHarvest_16 : decode cX4_withHarvest 16 = .ok (.aload_n 0, 1) := by decide +kernel
theorem dX4_withHarvest_17 : decode cX4_withHarvest 17 = .ok (.getfield 9, 3) := by decide +kernel
theorem dX4_withHarvest_20 : decode cX4_withHarvest 20 = .ok (.iload_n 2, 1) := by decide +kernel
theorem dX4_withHarvest_21 : decode cX4_withHarvest 21 = .ok (.iaload, 1) := by decide +kernel
theorem dX4_withHarvest_22 : decode cX4_withHarvest 22 = .ok (.iadd, 1) := by decide +kernel
theorem dX4_withHarvest_23 : decode cX4_withHarvest 23 = .ok (.invokestatic 32, 3) := by decide +kernel
theorem dX4_withHarvest_26 : decode cX4_withHarvest 26 = .ok (.ireturn, 1) := by decide +kernel
set_option maxRecDepth 20000 in
theorem ggX4_endWeek_X4_needWith : GoodIn wsX4_endWeek wsX4_needWith := goodIn_r _ [12, 13, 14, 15, 16, 17, 18, 19, 20, 21, 22] (by decide +kernel) (by decide +kernel)
set_option maxRecDepth 20000 in
theorem gX4_endWeek_X4_needWith : GoodIn wsX4_endWeek (wsV RX4 38 RX4 yX4_needWith wsX4_needWith) := goodIn_app (goodIn_of _ (by decide +kernel)) ggX4_endWeek_X4_needWith
theorem dX4_endWeek_0 : decode cX4_endWeek 0 = .ok (.aload_n 0, 1) := by decide +kernel
theorem dX4_endWeek_1 : decode cX4_endWeek 1 = .ok (.aload_n 0, 1) := by decide +kernel
theorem dX4_endWeek_2 : decode cX4_endWeek 2 = .ok (.getfield 22, 3) := by decide +kernel
theorem dX4_endWeek_5 : decode cX4_endWeek 5 = .ok (.invokevirtual 38, 3) := by decide +kernel
theorem dX4_endWeek_8 : decode cX4_endWeek 8 = .ok (.istore_n 1, 1) := by decide +kernel
theorem dX4_endWeek_9 : decode cX4_endWeek 9 = .ok (.aload_n 0, 1) := by decide +kernel
theorem dX4_endWeek_10 : decode cX4_endWeek 10 = .ok (.getfield 42, 3) := by decide +kernel
theorem dX4_endWeek_13 : decode cX4_endWeek 13 = .ok (.iload_n 1, 1) := by decide +kernel
theorem dX4_endWeek_14 : decode cX4_endWeek 14 = .ok (.if_icmp .ge 13, 3) := by decide +kernel
theorem dX4_endWeek_17 : decode cX4_endWeek 17 = .ok (.aload_n 0, 1) := by decide +kernel
theorem dX4_endWeek_18 : decode cX4_endWeek 18 = .ok (.dup, 1) := by decide +kernel
theorem dX4_endWeek_19 : decode cX4_endWeek 19 = .ok (.getfield 45, 3) := by decide +kernel
theorem dX4_endWeek_22 : decode cX4_endWeek 22 = .ok (.iconst 1, 1) := by decide +kernel
theorem dX4_endWeek_23 : decode cX4_endWeek 23 = .ok (.iadd, 1) := by decide +kernel
theorem dX4_endWeek_24 : decode cX4_endWeek 24 = .ok (.putfield 45, 3) := by decide +kernel
theorem dX4_endWeek_27 : decode cX4_endWeek 27 = .ok (.aload_n 0, 1) := by decide +kernel
theorem dX4_endWeek_28 : decode cX4_endWeek 28 = .ok (.iconst 0, 1) := by decide +kernel
theorem dX4_endWeek_29 : decode cX4_endWeek 29 = .ok (.aload_n 0, 1) := by decide +kernel
theorem dX4_endWeek_30 : decode cX4_endWeek 30 = .ok (.getfield 42, 3) := by decide +kernel
theorem dX4_endWeek_33 : decode cX4_endWeek 33 = .ok (.iload_n 1, 1) := by decide +kernel
theorem dX4_endWeek_34 : decode cX4_endWeek 34 = .ok (.isub, 1) := by decide +kernel
theorem dX4_endWeek_35 : decode cX4_endWeek 35 = .ok (.invokestatic 48, 3) := by decide +kernel
theorem dX4_endWeek_38 : decode cX4_endWeek 38 = .ok (.putfield 42, 3) := by decide +kernel
theorem dX4_endWeek_41 : decode cX4_endWeek 41 = .ok (.return_, 1) := by decide +kernel
set_option maxRecDepth 20000 in
theorem ggX4_beginWeek_X4_withHarvest : GoodIn wsX4_beginWeek wsX4_withHarvest := goodIn_r _ [8, 9, 10, 11, 12, 13, 14, 15, 16, 17, 18, 19, 20, 21, 22] (by decide +kernel) (by decide +kernel)
set_option maxRecDepth 20000 in
theorem gX4_beginWeek_X4_withHarvest : GoodIn wsX4_beginWeek (wsV RX4 51 RX4 yX4_withHarvest wsX4_withHarvest) := goodIn_app (goodIn_of _ (by decide +kernel)) ggX4_beginWeek_X4_withHarvest
theorem dX4_beginWeek_0 : decode cX4_beginWeek 0 = .ok (.aload_n 0, 1) := by decide +kernel
theorem dX4_beginWeek_1 : decode cX4_beginWeek 1 = .ok (.aload_n 0, 1) := by decide +kernel
theorem dX4_beginWeek_2 : decode cX4_beginWeek 2 = .ok (.aload_n 0, 1) := by decide +kernel
theorem dX4_beginWeek_3 : decode cX4_beginWeek 3 = .ok (.getfield 42, 3) := by decide +kernel
theorem dX4_beginWeek_6 : decode cX4_beginWeek 6 = .ok (.iload_n 1, 1) := by decide +kernel
theorem dX4_beginWeek_7 : decode cX4_beginWeek 7 = .ok (.invokevirtual 51, 3) := by decide +kernel
theorem dX4_beginWeek_10 : decode cX4_beginWeek 10 = .ok (.putfield 42, 3) := by decide +kernel
theorem dX4_beginWeek_13 : decode cX4_beginWeek 13 = .ok (.iload_n 1, 1) := by decide +kernel
theorem dX4_beginWeek_14 : decode cX4_beginWeek 14 = .ok (.ifCond .lt 25, 3) := by decide +kernel
theorem dX4_beginWeek_17 : decode cX4_beginWeek 17 = .ok (.iload_n 1, 1) := by decide +kernel
theorem dX4_beginWeek_18 : decode cX4_beginWeek 18 = .ok (.sipush 200, 3) := by decide +kernel
theorem dX4_beginWeek_21 : decode cX4_beginWeek 21 = .ok (.if_icmp .ge 18, 3) := by decide +kernel
theorem dX4_beginWeek_24 : decode cX4_beginWeek 24 = .ok (.aload_n 0, 1) := by decide +kernel
theorem dX4_beginWeek_25 : decode cX4_beginWeek 25 = .ok (.dup, 1) := by decide +kernel
theorem dX4_beginWeek_26 : decode cX4_beginWeek 26 = .ok (.getfield 25, 3) := by decide +kernel
theorem dX4_beginWeek_29 : decode cX4_beginWeek 29 = .ok (.aload_n 0, 1) := by decide +kernel
theorem dX4_beginWeek_30 : decode cX4_beginWeek 30 = .ok (.getfield 15, 3) := by decide +kernel
theorem dX4_beginWeek_33 : decode cX4_beginWeek 33 = .ok (.iload_n 1, 1) := by decide +kernel
theorem dX4_beginWeek_34 : decode cX4_beginWeek 34 = .ok (.iaload, 1) := by decide +kernel
theorem dX4_beginWeek_35 : decode cX4_beginWeek 35 = .ok (.isub, 1) := by decide +kernel
theorem dX4_beginWeek_36 : decode cX4_beginWeek 36 = .ok (.putfield 25, 3) := by decide +kernel
theorem dX4_beginWeek_39 : decode cX4_beginWeek 39 = .ok (.return_, 1) := by decide +kernel
set_option maxRecDepth 20000 in
theorem ggX4_firstHunger_X4_needWith : GoodIn wsX4_firstHunger wsX4_needWith := goodIn_r _ [6, 7, 8, 19, 20, 21, 22, 23, 24, 25, 26] (by decide +kernel) (by decide +kernel)
set_option maxRecDepth 20000 in
theorem gX4_firstHunger_X4_needWith : GoodIn wsX4_firstHunger (wsV RX4 38 RX4 yX4_needWith wsX4_needWith) := goodIn_app (goodIn_of _ (by decide +kernel)) ggX4_firstHunger_X4_needWith
set_option maxRecDepth 20000 in
theorem ggX4_firstHunger_X4_withHarvest : GoodIn wsX4_firstHunger wsX4_withHarvest := goodIn_r _ [12, 13, 14, 15, 16, 17, 18, 19, 20, 21, 22, 23, 24, 25, 26] (by decide +kernel) (by decide +kernel)
set_option maxRecDepth 20000 in
theorem gX4_firstHunger_X4_withHarvest : GoodIn wsX4_firstHunger (wsV RX4 51 RX4 yX4_withHarvest wsX4_withHarvest) := goodIn_app (goodIn_of _ (by decide +kernel)) ggX4_firstHunger_X4_withHarvest
theorem dX4_firstHunger_0 : decode cX4_firstHunger 0 = .ok (.aload_n 0, 1) := by decide +kernel
theorem dX4_firstHunger_1 : decode cX4_firstHunger 1 = .ok (.iload_n 3, 1) := by decide +kernel
theorem dX4_firstHunger_2 : decode cX4_firstHunger 2 = .ok (.invokevirtual 38, 3) := by decide +kernel
theorem dX4_firstHunger_5 : decode cX4_firstHunger 5 = .ok (.istore 4, 2) := by decide +kernel
theorem dX4_firstHunger_7 : decode cX4_firstHunger 7 = .ok (.aload_n 0, 1) := by decide +kernel
theorem dX4_firstHunger_8 : decode cX4_firstHunger 8 = .ok (.getfield 42, 3) := by decide +kernel
theorem dX4_firstHunger_11 : decode cX4_firstHunger 11 = .ok (.istore 5, 2) := by decide +kernel
theorem dX4_firstHunger_13 : decode cX4_firstHunger 13 = .ok (.iload_n 1, 1) := by decide +kernel
theorem dX4_firstHunger_14 : decode cX4_firstHunger 14 = .ok (.istore 6, 2) := by decide +kernel
theorem dX4_firstHunger_16 : decode cX4_firstHunger 16 = .ok (.iload 6, 2) := by decide +kernel
theorem dX4_firstHunger_18 : decode cX4_firstHunger 18 = .ok (.iload_n 2, 1) := by decide +kernel
theorem dX4_firstHunger_19 : decode cX4_firstHunger 19 = .ok (.if_icmp .gt 42, 3) := by decide +kernel
theorem dX4_firstHunger_22 : decode cX4_firstHunger 22 = .ok (.iload 6, 2) := by decide +kernel
theorem dX4_firstHunger_24 : decode cX4_firstHunger 24 = .ok (.iload_n 1, 1) := by decide +kernel
theorem dX4_firstHunger_25 : decode cX4_firstHunger 25 = .ok (.if_icmp .le 13, 3) := by decide +kernel
theorem dX4_firstHunger_28 : decode cX4_firstHunger 28 = .ok (.aload_n 0, 1) := by decide +kernel
theorem dX4_firstHunger_29 : decode cX4_firstHunger 29 = .ok (.iload 5, 2) := by decide +kernel
theorem dX4_firstHunger_31 : decode cX4_firstHunger 31 = .ok (.iload 6, 2) := by decide +kernel
theorem dX4_firstHunger_33 : decode cX4_firstHunger 33 = .ok (.invokevirtual 51, 3) := by decide +kernel
theorem dX4_firstHunger_36 : decode cX4_firstHunger 36 = .ok (.istore 5, 2) := by decide +kernel
theorem dX4_firstHunger_38 : decode cX4_firstHunger 38 = .ok (.iload 5, 2) := by decide +kernel
theorem dX4_firstHunger_40 : decode cX4_firstHunger 40 = .ok (.iload 4, 2) := by decide +kernel
theorem dX4_firstHunger_42 : decode cX4_firstHunger 42 = .ok (.if_icmp .ge 6, 3) := by decide +kernel
theorem dX4_firstHunger_45 : decode cX4_firstHunger 45 = .ok (.iload 6, 2) := by decide +kernel
theorem dX4_firstHunger_47 : decode cX4_firstHunger 47 = .ok (.ireturn, 1) := by decide +kernel
theorem dX4_firstHunger_48 : decode cX4_firstHunger 48 = .ok (.iload 5, 2) := by decide +kernel
theorem dX4_firstHunger_50 : decode cX4_firstHunger 50 = .ok (.iload 4, 2) := by decide +kernel
theorem dX4_firstHunger_52 : decode cX4_firstHunger 52 = .ok (.isub, 1) := by decide +kernel
theorem dX4_firstHunger_53 : decode cX4_firstHunger 53 = .ok (.istore 5, 2) := by decide +kernel
theorem dX4_firstHunger_55 : decode cX4_firstHunger 55 = .ok (.iinc 6 1, 3) := by decide +kernel
theorem dX4_firstHunger_58 : decode cX4_firstHunger 58 = .ok (.goto (-42), 3) := by decide +kernel
theorem dX4_firstHunger_61 : decode cX4_firstHunger 61 = .ok (.bipush (-6), 2) := by decide +kernel
theorem dX4_firstHunger_63 : decode cX4_firstHunger 63 = .ok (.ireturn, 1) := by decide +kernel
set_option maxRecDepth 20000 in
theorem ggX4_greatestRation_X4_firstHunger : GoodIn wsX4_greatestRation wsX4_firstHunger := goodIn_r _ [5, 6, 7, 8, 9, 4, 10, 11, 12, 13, 14, 15, 16, 17, 18, 19, 20, 21, 22, 23, 24, 25, 26, 27, 28, 29, 30] (by decide +kernel) (by decide +kernel)
set_option maxRecDepth 20000 in
theorem gX4_greatestRation_X4_firstHunger : GoodIn wsX4_greatestRation (wsV RX4 54 RX4 yX4_firstHunger wsX4_firstHunger) := goodIn_app (goodIn_of _ (by decide +kernel)) ggX4_greatestRation_X4_firstHunger
theorem dX4_greatestRation_0 : decode cX4_greatestRation 0 = .ok (.iconst 0, 1) := by decide +kernel
theorem dX4_greatestRation_1 : decode cX4_greatestRation 1 = .ok (.istore_n 3, 1) := by decide +kernel
theorem dX4_greatestRation_2 : decode cX4_greatestRation 2 = .ok (.bipush 64, 2) := by decide +kernel
theorem dX4_greatestRation_4 : decode cX4_greatestRation 4 = .ok (.istore 4, 2) := by decide +kernel
theorem dX4_greatestRation_6 : decode cX4_greatestRation 6 = .ok (.iload 4, 2) := by decide +kernel
theorem dX4_greatestRation_8 : decode cX4_greatestRation 8 = .ok (.ifCond .le 41, 3) := by decide +kernel
theorem dX4_greatestRation_11 : decode cX4_greatestRation 11 = .ok (.iload_n 3, 1) := by decide +kernel
theorem dX4_greatestRation_12 : decode cX4_greatestRation 12 = .ok (.iload 4, 2) := by decide +kernel
theorem dX4_greatestRation_14 : decode cX4_greatestRation 14 = .ok (.iadd, 1) := by decide +kernel
theorem dX4_greatestRation_15 : decode cX4_greatestRation 15 = .ok (.istore 5, 2) := by decide +kernel
theorem dX4_greatestRation_17 : decode cX4_greatestRation 17 = .ok (.iload 5, 2) := by decide +kernel
theorem dX4_greatestRation_19 : decode cX4_greatestRation 19 = .ok (.bipush 100, 2) := by decide +kernel
theorem dX4_greatestRation_21 : decode cX4_greatestRation 21 = .ok (.if_icmp .gt 19, 3) := by decide +kernel
theorem dX4_greatestRation_24 : decode cX4_greatestRation 24 = .ok (.aload_n 0, 1) := by decide +kernel
theorem dX4_greatestRation_25 : decode cX4_greatestRation 25 = .ok (.iload_n 1, 1) := by decide +kernel
theorem dX4_greatestRation_26 : decode cX4_greatestRation 26 = .ok (.iload_n 2, 1) := by decide +kernel
theorem dX4_greatestRation_27 : decode cX4_greatestRation 27 = .ok (.iload 5, 2) := by decide +kernel
theorem dX4_greatestRation_29 : decode cX4_greatestRation 29 = .ok (.invokevirtual 54, 3) := by decide +kernel
theorem dX4_greatestRation_32 : decode cX4_greatestRation 32 = .ok (.bipush (-6), 2) := by decide +kernel
theorem dX4_greatestRation_34 : decode cX4_greatestRation 34 = .ok (.if_icmp .ne 6, 3) := by decide +kernel
theorem dX4_greatestRation_37 : decode cX4_greatestRation 37 = .ok (.iload 5, 2) := by decide +kernel
theorem dX4_greatestRation_39 : decode cX4_greatestRation 39 = .ok (.istore_n 3, 1) := by decide +kernel
theorem dX4_greatestRation_40 : decode cX4_greatestRation 40 = .ok (.iload 4, 2) := by decide +kernel
theorem dX4_greatestRation_42 : decode cX4_greatestRation 42 = .ok (.iconst 2, 1) := by decide +kernel
theorem dX4_greatestRation_43 : decode cX4_greatestRation 43 = .ok (.idiv, 1) := by decide +kernel
theorem dX4_greatestRation_44 : decode cX4_greatestRation 44 = .ok (.istore 4, 2) := by decide +kernel
theorem dX4_greatestRation_46 : decode cX4_greatestRation 46 = .ok (.goto (-40), 3) := by decide +kernel
theorem dX4_greatestRation_49 : decode cX4_greatestRation 49 = .ok (.iload_n 3, 1) := by decide +kernel
theorem dX4_greatestRation_50 : decode cX4_greatestRation 50 = .ok (.ifCond .ne 8, 3) := by decide +kernel
theorem dX4_greatestRation_53 : decode cX4_greatestRation 53 = .ok (.bipush (-6), 2) := by decide +kernel
theorem dX4_greatestRation_55 : decode cX4_greatestRation 55 = .ok (.goto 4, 3) := by decide +kernel
theorem dX4_greatestRation_58 : decode cX4_greatestRation 58 = .ok (.iload_n 3, 1) := by decide +kernel
theorem dX4_greatestRation_59 : decode cX4_greatestRation 59 = .ok (.ireturn, 1) := by decide +kernel
theorem dX5_init_0 : decode cX5_init 0 = .ok (.aload_n 0, 1) := by decide +kernel
theorem dX5_init_1 : decode cX5_init 1 = .ok (.invokespecial 3, 3) := by decide +kernel
theorem dX5_init_4 : decode cX5_init 4 = .ok (.aload_n 0, 1) := by decide +kernel
theorem dX5_init_5 : decode cX5_init 5 = .ok (.bipush 6, 2) := by decide +kernel
theorem dX5_init_7 : decode cX5_init 7 = .ok (.anewarray 9, 3) := by decide +kernel
theorem dX5_init_10 : decode cX5_init 10 = .ok (.putfield 11, 3) := by decide +kernel
theorem dX5_init_13 : decode cX5_init 13 = .ok (.return_, 1) := by decide +kernel
theorem dX5_isFull_0 : decode cX5_isFull 0 = .ok (.aload_n 0, 1) := by decide +kernel
theorem dX5_isFull_1 : decode cX5_isFull 1 = .ok (.getfield 17, 3) := by decide +kernel
theorem dX5_isFull_4 : decode cX5_isFull 4 = .ok (.bipush 6, 2) := by decide +kernel
theorem dX5_isFull_6 : decode cX5_isFull 6 = .ok (.if_icmp .lt 7, 3) := by decide +kernel
theorem dX5_isFull_9 : decode cX5_isFull 9 = .ok (.iconst 1, 1) := by decide +kernel
theorem dX5_isFull_10 : decode cX5_isFull 10 = .ok (.goto 4, 3) := by decide +kernel
theorem dX5_isFull_13 : decode cX5_isFull 13 = .ok (.iconst 0, 1) := by decide +kernel
theorem dX5_isFull_14 : decode cX5_isFull 14 = .ok (.ireturn, 1) := by decide +kernel
set_option maxRecDepth 20000 in
theorem ggX5_enact_X5_isFull : GoodIn wsX5_enact wsX5_isFull := goodIn_r _ [7, 2, 8, 9] (by decide +kernel) (by decide +kernel)
set_option maxRecDepth 20000 in
theorem gX5_enact_X5_isFull : GoodIn wsX5_enact (wsV RX5 21 RX5 yX5_isFull wsX5_isFull) := goodIn_app (goodIn_of _ (by decide +kernel)) ggX5_enact_X5_isFull
theorem dX5_enact_0 : decode cX5_enact 0 = .ok (.aload_n 0, 1) := by decide +kernel
theorem dX5_enact_1 : decode cX5_enact 1 = .ok (.invokevirtual 21, 3) := by decide +kernel
theorem dX5_enact_4 : decode cX5_enact 4 = .ok (.ifCond .ne 23, 3) := by decide +kernel
theorem dX5_enact_7 : decode cX5_enact 7 = .ok (.aload_n 0, 1) := by decide +kernel
theorem dX5_enact_8 : decode cX5_enact 8 = .ok (.getfield 11, 3) := by decide +kernel
theorem dX5_enact_11 : decode cX5_enact 11 = .ok (.aload_n 0, 1) := by decide +kernel
theorem dX5_enact_12 : decode cX5_enact 12 = .ok (.getfield 17, 3) := by decide +kernel
theorem dX5_enact_15 : decode cX5_enact 15 = .ok (.aload_n 1, 1) := by decide +kernel
theorem dX5_enact_16 : decode cX5_enact 16 = .ok (.aastore, 1) := by decide +kernel
theorem dX5_enact_17 : decode cX5_enact 17 = .ok (.aload_n 0, 1) := by decide +kernel
theorem dX5_enact_18 : decode cX5_enact 18 = .ok (.dup, 1) := by decide +kernel
theorem dX5_enact_19 : decode cX5_enact 19 = .ok (.getfield 17, 3) := by decide +kernel
theorem dX5_enact_22 : decode cX5_enact 22 = .ok (.iconst 1, 1) := by decide +kernel
theorem dX5_enact_23 : decode cX5_enact 23 = .ok (.iadd, 1) := by decide +kernel
theorem dX5_enact_24 : decode cX5_enact 24 = .ok (.putfield 17, 3) := by decide +kernel
theorem dX5_enact_27 : decode cX5_enact 27 = .ok (.return_, 1) := by decide +kernel
theorem dX5_textAt_0 : decode cX5_textAt 0 = .ok (.iload_n 1, 1) := by decide +kernel
theorem dX5_textAt_1 : decode cX5_textAt 1 = .ok (.ifCond .lt 11, 3) := by decide +kernel
theorem dX5_textAt_4 : decode cX5_textAt 4 = .ok (.iload_n 1, 1) := by decide +kernel
theorem dX5_textAt_5 : decode cX5_textAt 5 = .ok (.aload_n 0, 1) := by decide +kernel
theorem dX5_textAt_6 : decode cX5_textAt 6 = .ok (.getfield 17, 3) := by decide +kernel
theorem dX5_textAt_9 : decode cX5_textAt 9 = .ok (.if_icmp .lt 7, 3) := by decide +kernel
theorem dX5_textAt_12 : decode cX5_textAt 12 = .ok (.aconst_null, 1) := by decide +kernel
theorem dX5_textAt_13 : decode cX5_textAt 13 = .ok (.goto 9, 3) := by decide +kernel
theorem dX5_textAt_16 : decode cX5_textAt 16 = .ok (.aload_n 0, 1) := by decide +kernel
theorem dX5_textAt_17 : decode cX5_textAt 17 = .ok (.getfield 11, 3) := by decide +kernel
theorem dX5_textAt_20 : decode cX5_textAt 20 = .ok (.iload_n 1, 1) := by decide +kernel
theorem dX5_textAt_21 : decode cX5_textAt 21 = .ok (.aaload, 1) := by decide +kernel
theorem dX5_textAt_22 : decode cX5_textAt 22 = .ok (.areturn, 1) := by decide +kernel
theorem dX5_ruling_0 : decode cX5_ruling 0 = .ok (.aconst_null, 1) := by decide +kernel
theorem dX5_ruling_1 : decode cX5_ruling 1 = .ok (.astore_n 2, 1) := by decide +kernel
theorem dX5_ruling_2 : decode cX5_ruling 2 = .ok (.iconst 0, 1) := by decide +kernel
theorem dX5_ruling_3 : decode cX5_ruling 3 = .ok (.istore_n 3, 1) := by decide +kernel
theorem dX5_ruling_4 : decode cX5_ruling 4 = .ok (.iload_n 3, 1) := by decide +kernel
theorem dX5_ruling_5 : decode cX5_ruling 5 = .ok (.aload_n 0, 1) := by decide +kernel
theorem dX5_ruling_6 : decode cX5_ruling 6 = .ok (.getfield 17, 3) := by decide +kernel
theorem dX5_ruling_9 : decode cX5_ruling 9 = .ok (.if_icmp .ge 50, 3) := by decide +kernel
theorem dX5_ruling_12 : decode cX5_ruling 12 = .ok (.aload_n 0, 1) := by decide +kernel
theorem dX5_ruling_13 : decode cX5_ruling 13 = .ok (.getfield 11, 3) := by decide +kernel
theorem dX5_ruling_16 : decode cX5_ruling 16 = .ok (.iload_n 3, 1) := by decide +kernel
theorem dX5_ruling_17 : decode cX5_ruling 17 = .ok (.aaload, 1) := by decide +kernel
theorem dX5_ruling_18 : decode cX5_ruling 18 = .ok (.astore 4, 2) := by decide +kernel
theorem dX5_ruling_20 : decode cX5_ruling 20 = .ok (.aload 4, 2) := by decide +kernel
theorem dX5_ruling_22 : decode cX5_ruling 22 = .ok (.ifnull 31, 3) := by decide +kernel
theorem dX5_ruling_25 : decode cX5_ruling 25 = .ok (.aload 4, 2) := by decide +kernel
theorem dX5_ruling_27 : decode cX5_ruling 27 = .ok (.getfield 25, 3) := by decide +kernel
theorem dX5_ruling_30 : decode cX5_ruling 30 = .ok (.iload_n 1, 1) := by decide +kernel
theorem dX5_ruling_31 : decode cX5_ruling 31 = .ok (.if_icmp .gt 22, 3) := by decide +kernel
theorem dX5_ruling_34 : decode cX5_ruling 34 = .ok (.aload_n 2, 1) := by decide +kernel
theorem dX5_ruling_35 : decode cX5_ruling 35 = .ok (.ifnull 15, 3) := by decide +kernel
theorem dX5_ruling_38 : decode cX5_ruling 38 = .ok (.aload 4, 2) := by decide +kernel
theorem dX5_ruling_40 : decode cX5_ruling 40 = .ok (.getfield 25, 3) := by decide +kernel
theorem dX5_ruling_43 : decode cX5_ruling 43 = .ok (.aload_n 2, 1) := by decide +kernel
theorem dX5_ruling_44 : decode cX5_ruling 44 = .ok (.getfield 25, 3) := by decide +kernel
theorem dX5_ruling_47 : decode cX5_ruling 47 = .ok (.if_icmp .lt 6, 3) := by decide +kernel
theorem dX5_ruling_50 : decode cX5_ruling 50 = .ok (.aload 4, 2) := by decide +kernel
theorem dX5_ruling_52 : decode cX5_ruling 52 = .ok (.astore_n 2, 1) := by decide +kernel
theorem dX5_ruling_53 : decode cX5_ruling 53 = .ok (.iinc 3 1, 3) := by decide +kernel
theorem dX5_ruling_56 : decode cX5_ruling 56 = .ok (.goto (-52), 3) := by decide +kernel
theorem dX5_ruling_59 : decode cX5_ruling 59 = .ok (.aload_n 2, 1) := by decide +kernel
theorem dX5_ruling_60 : decode cX5_ruling 60 = .ok (.areturn, 1) := by decide +kernel
set_option maxRecDepth 20000 in
theorem ggX6_init_X3_init : GoodIn wsX6_init wsX3_init := goodIn_r _ [6, 7, 8, 9, 10, 11, 12, 13, 22, 23, 24, 25, 26, 27, 28, 29, 30, 14, 15, 16, 17, 18, 19, 20, 21, 31, 32, 33, 34, 35, 36, 37, 38, 39, 40] (by decide +kernel) (by decide +kernel)
set_option maxRecDepth 20000 in
theorem gX6_init_X3_init : GoodIn wsX6_init (wsX3_init) := ggX6_init_X3_init
theorem dX6_init_0 : decode cX6_init 0 = .ok (.aload_n 0, 1) := by decide +kernel
theorem dX6_init_1 : decode cX6_init 1 = .ok (.iconst 1, 1) := by decide +kernel
theorem dX6_init_2 : decode cX6_init 2 = .ok (.iload_n 1, 1) := by decide +kernel
theorem dX6_init_3 : decode cX6_init 3 = .ok (.iload_n 2, 1) := by decide +kernel
theorem dX6_init_4 : decode cX6_init 4 = .ok (.iload_n 3, 1) := by decide +kernel
theorem dX6_init_5 : decode cX6_init 5 = .ok (.invokespecial 3, 3) := by decide +kernel
theorem dX6_init_8 : decode cX6_init 8 = .ok (.aload_n 0, 1) := by decide +kernel
theorem dX6_init_9 : decode cX6_init 9 = .ok (.iload 4, 2) := by decide +kernel
theorem dX6_init_11 : decode cX6_init 11 = .ok (.putfield 9, 3) := by decide +kernel
theorem dX6_init_14 : decode cX6_init 14 = .ok (.aload_n 0, 1) := by decide +kernel
theorem dX6_init_15 : decode cX6_init 15 = .ok (.iload 5, 2) := by decide +kernel
theorem dX6_init_17 : decode cX6_init 17 = .ok (.putfield 15, 3) := by decide +kernel
theorem dX6_init_20 : decode cX6_init 20 = .ok (.return_, 1) := by decide +kernel
theorem dX6_detail_0 : decode cX6_detail 0 = .ok (.iload_n 1, 1) := by decide +kernel
theorem dX6_detail_1 : decode cX6_detail 1 = .ok (.tableswitch 59 0 3 #[31, 36, 41, 54], 31) := by decide +kernel
theorem dX6_detail_32 : decode cX6_detail 32 = .ok (.aload_n 0, 1) := by decide +kernel
theorem dX6_detail_33 : decode cX6_detail 33 = .ok (.getfield 9, 3) := by decide +kernel
theorem dX6_detail_36 : decode cX6_detail 36 = .ok (.ireturn, 1) := by decide +kernel
theorem dX6_detail_37 : decode cX6_detail 37 = .ok (.aload_n 0, 1) := by decide +kernel
theorem dX6_detail_38 : decode cX6_detail 38 = .ok (.getfield 15, 3) := by decide +kernel
theorem dX6_detail_41 : decode cX6_detail 41 = .ok (.ireturn, 1) := by decide +kernel
theorem dX6_detail_42 : decode cX6_detail 42 = .ok (.aload_n 0, 1) := by decide +kernel
theorem dX6_detail_43 : decode cX6_detail 43 = .ok (.getfield 18, 3) := by decide +kernel
theorem dX6_detail_46 : decode cX6_detail 46 = .ok (.ifCond .eq 7, 3) := by decide +kernel
theorem dX6_detail_49 : decode cX6_detail 49 = .ok (.iconst 1, 1) := by decide +kernel
theorem dX6_detail_50 : decode cX6_detail 50 = .ok (.goto 4, 3) := by decide +kernel
theorem dX6_detail_53 : decode cX6_detail 53 = .ok (.iconst 0, 1) := by decide +kernel
theorem dX6_detail_54 : decode cX6_detail 54 = .ok (.ireturn, 1) := by decide +kernel
theorem dX6_detail_55 : decode cX6_detail 55 = .ok (.aload_n 0, 1) := by decide +kernel
theorem dX6_detail_56 : decode cX6_detail 56 = .ok (.getfield 22, 3) := by decide +kernel
theorem dX6_detail_59 : decode cX6_detail 59 = .ok (.ireturn, 1) := by decide +kernel
theorem dX6_detail_60 : decode cX6_detail 60 = .ok (.bipush (-2), 2) := by decide +kernel
theorem dX6_detail_62 : decode cX6_detail 62 = .ok (.ireturn, 1) := by decide +kernel
theorem dX7_init_0 : decode cX7_init 0 = .ok (.aload_n 0, 1) := by decide +kernel
theorem dX7_init_1 : decode cX7_init 1 = .ok (.invokespecial 3, 3) := by decide +kernel
theorem dX7_init_4 : decode cX7_init 4 = .ok (.aload_n 0, 1) := by decide +kernel
theorem dX7_init_5 : decode cX7_init 5 = .ok (.sipush 200, 3) := by decide +kernel
theorem dX7_init_8 : decode cX7_init 8 = .ok (.newarray .long, 2) := by decide +kernel
theorem dX7_init_10 : decode cX7_init 10 = .ok (.putfield 9, 3) := by decide +kernel
theorem dX7_init_13 : decode cX7_init 13 = .ok (.aload_n 0, 1) := by decide +kernel
theorem dX7_init_14 : decode cX7_init 14 = .ok (.sipush 200, 3) := by decide +kernel
theorem dX7_init_17 : decode cX7_init 17 = .ok (.newarray .long, 2) := by decide +kernel
theorem dX7_init_19 : decode cX7_init 19 = .ok (.putfield 15, 3) := by decide +kernel
theorem dX7_init_22 : decode cX7_init 22 = .ok (.return_, 1) := by decide +kernel
set_option maxRecDepth 20000 in
theorem ggX7_note_X3_week : GoodIn wsX7_note wsX3_week := goodIn_r _ [10, 11, 22, 23, 24, 25, 26, 27, 28, 29, 30, 14, 15, 16, 17, 18, 19, 20, 21, 31, 32, 33, 34, 35, 36, 37, 38, 39, 40] (by decide +kernel) (by decide +kernel)
set_option maxRecDepth 20000 in
theorem gX7_note_X3_week_u18X6 : GoodIn wsX7_note (va_wsU RX7 18 RX6 "BreadLaw$Entry" ⟨"BreadLaw$Lot", "week", "()I"⟩ yX3_week wsX3_week) := goodIn_app (goodIn_of _ (by decide +kernel)) ggX7_note_X3_week
theorem dX7_note_0 : decode cX7_note 0 = .ok (.aload_n 1, 1) := by decide +kernel
theorem dX7_note_1 : decode cX7_note 1 = .ok (.invokevirtual 18, 3) := by decide +kernel
theorem dX7_note_4 : decode cX7_note 4 = .ok (.istore_n 2, 1) := by decide +kernel
theorem dX7_note_5 : decode cX7_note 5 = .ok (.iload_n 2, 1) := by decide +kernel
theorem dX7_note_6 : decode cX7_note 6 = .ok (.ifCond .lt 44, 3) := by decide +kernel
theorem dX7_note_9 : decode cX7_note 9 = .ok (.iload_n 2, 1) := by decide +kernel
theorem dX7_note_10 : decode cX7_note 10 = .ok (.sipush 200, 3) := by decide +kernel
theorem dX7_note_13 : decode cX7_note 13 = .ok (.if_icmp .ge 37, 3) := by decide +kernel
theorem dX7_note_16 : decode cX7_note 16 = .ok (.aload_n 0, 1) := by decide +kernel
theorem dX7_note_17 : decode cX7_note 17 = .ok (.getfield 9, 3) := by decide +kernel
theorem dX7_note_20 : decode cX7_note 20 = .ok (.iload_n 2, 1) := by decide +kernel
theorem dX7_note_21 : decode cX7_note 21 = .ok (.dup2, 1) := by decide +kernel
theorem dX7_note_22 : decode cX7_note 22 = .ok (.laload, 1) := by decide +kernel
theorem dX7_note_23 : decode cX7_note 23 = .ok (.aload_n 1, 1) := by decide +kernel
theorem dX7_note_24 : decode cX7_note 24 = .ok (.getfield 24, 3) := by decide +kernel
theorem dX7_note_27 : decode cX7_note 27 = .ok (.i2l, 1) := by decide +kernel
theorem dX7_note_28 : decode cX7_note 28 = .ok (.ladd, 1) := by decide +kernel
theorem dX7_note_29 : decode cX7_note 29 = .ok (.lastore, 1) := by decide +kernel
theorem dX7_note_30 : decode cX7_note 30 = .ok (.aload_n 0, 1) := by decide +kernel
theorem dX7_note_31 : decode cX7_note 31 = .ok (.getfield 15, 3) := by decide +kernel
theorem dX7_note_34 : decode cX7_note 34 = .ok (.iload_n 2, 1) := by decide +kernel
theorem dX7_note_35 : decode cX7_note 35 = .ok (.dup2, 1) := by decide +kernel
theorem dX7_note_36 : decode cX7_note 36 = .ok (.laload, 1) := by decide +kernel
theorem dX7_note_37 : decode cX7_note 37 = .ok (.aload_n 1, 1) := by decide +kernel
theorem dX7_note_38 : decode cX7_note 38 = .ok (.getfield 27, 3) := by decide +kernel
theorem dX7_note_41 : decode cX7_note 41 = .ok (.i2l, 1) := by decide +kernel
theorem dX7_note_42 : decode cX7_note 42 = .ok (.aload_n 1, 1) := by decide +kernel
theorem dX7_note_43 : decode cX7_note 43 = .ok (.getfield 24, 3) := by decide +kernel
theorem dX7_note_46 : decode cX7_note 46 = .ok (.i2l, 1) := by decide +kernel
theorem dX7_note_47 : decode cX7_note 47 = .ok (.lmul, 1) := by decide +kernel
theorem dX7_note_48 : decode cX7_note 48 = .ok (.ladd, 1) := by decide +kernel
theorem dX7_note_49 : decode cX7_note 49 = .ok (.lastore, 1) := by decide +kernel
theorem dX7_note_50 : decode cX7_note 50 = .ok (.return_, 1) := by decide +kernel
theorem dX7_priceOf_0 : decode cX7_priceOf 0 = .ok (.iload_n 1, 1) := by decide +kernel
theorem dX7_priceOf_1 : decode cX7_priceOf 1 = .ok (.sipush 199, 3) := by decide +kernel
theorem dX7_priceOf_4 : decode cX7_priceOf 4 = .ok (.invokestatic 30, 3) := by decide +kernel
theorem dX7_priceOf_7 : decode cX7_priceOf 7 = .ok (.istore_n 2, 1) := by decide +kernel
theorem dX7_priceOf_8 : decode cX7_priceOf 8 = .ok (.iload_n 2, 1) := by decide +kernel
theorem dX7_priceOf_9 : decode cX7_priceOf 9 = .ok (.ifCond .lt 35, 3) := by decide +kernel
theorem dX7_priceOf_12 : decode cX7_priceOf 12 = .ok (.aload_n 0, 1) := by decide +kernel
theorem dX7_priceOf_13 : decode cX7_priceOf 13 = .ok (.getfield 9, 3) := by decide +kernel
theorem dX7_priceOf_16 : decode cX7_priceOf 16 = .ok (.iload_n 2, 1) := by decide +kernel
theorem dX7_priceOf_17 : decode cX7_priceOf 17 = .ok (.laload, 1) := by decide +kernel
theorem dX7_priceOf_18 : decode cX7_priceOf 18 = .ok (.lconst 0, 1) := by decide +kernel
theorem dX7_priceOf_19 : decode cX7_priceOf 19 = .ok (.lcmp, 1) := by decide +kernel
theorem dX7_priceOf_20 : decode cX7_priceOf 20 = .ok (.ifCond .le 18, 3) := by decide +kernel
theorem dX7_priceOf_23 : decode cX7_priceOf 23 = .ok (.aload_n 0, 1) := by decide +kernel
theorem dX7_priceOf_24 : decode cX7_priceOf 24 = .ok (.getfield 15, 3) := by decide +kernel
theorem dX7_priceOf_27 : decode cX7_priceOf 27 = .ok (.iload_n 2, 1) := by decide +kernel
theorem dX7_priceOf_28 : decode cX7_priceOf 28 = .ok (.laload, 1) := by decide +kernel
theorem dX7_priceOf_29 : decode cX7_priceOf 29 = .ok (.aload_n 0, 1) := by decide +kernel
theorem dX7_priceOf_30 : decode cX7_priceOf 30 = .ok (.getfield 9, 3) := by decide +kernel
theorem dX7_priceOf_33 : decode cX7_priceOf 33 = .ok (.iload_n 2, 1) := by decide +kernel
theorem dX7_priceOf_34 : decode cX7_priceOf 34 = .ok (.laload, 1) := by decide +kernel
theorem dX7_priceOf_35 : decode cX7_priceOf 35 = .ok (.ldiv, 1) := by decide +kernel
theorem dX7_priceOf_36 : decode cX7_priceOf 36 = .ok (.l2i, 1) := by decide +kernel
theorem dX7_priceOf_37 : decode cX7_priceOf 37 = .ok (.ireturn, 1) := by decide +kernel
theorem dX7_priceOf_38 : decode cX7_priceOf 38 = .ok (.iinc 2 (-1), 3) := by decide +kernel
theorem dX7_priceOf_41 : decode cX7_priceOf 41 = .ok (.goto (-33), 3) := by decide +kernel
theorem dX7_priceOf_44 : decode cX7_priceOf 44 = .ok (.bipush 100, 2) := by decide +kernel
theorem dX7_priceOf_46 : decode cX7_priceOf 46 = .ok (.ireturn, 1) := by decide +kernel
set_option maxRecDepth 20000 in
theorem ggX8_init_X3_init : GoodIn wsX8_init wsX3_init := goodIn_r _ [5, 6, 7, 8, 9, 10, 11, 12, 23, 24, 25, 26, 27, 28, 29, 30, 31, 32, 33, 34, 35, 36, 37, 38, 39, 13, 14, 15, 16, 17, 18, 19, 20, 21, 22] (by decide +kernel) (by decide +kernel)
set_option maxRecDepth 20000 in
theorem gX8_init_X3_init : GoodIn wsX8_init (wsX3_init) := ggX8_init_X3_init
theorem dX8_init_0 : decode cX8_init 0 = .ok (.aload_n 0, 1) := by decide +kernel
theorem dX8_init_1 : decode cX8_init 1 = .ok (.iconst 3, 1) := by decide +kernel
theorem dX8_init_2 : decode cX8_init 2 = .ok (.iload_n 1, 1) := by decide +kernel
theorem dX8_init_3 : decode cX8_init 3 = .ok (.iload_n 2, 1) := by decide +kernel
theorem dX8_init_4 : decode cX8_init 4 = .ok (.iload_n 3, 1) := by decide +kernel
theorem dX8_init_5 : decode cX8_init 5 = .ok (.invokespecial 3, 3) := by decide +kernel
theorem dX8_init_8 : decode cX8_init 8 = .ok (.aload_n 0, 1) := by decide +kernel
theorem dX8_init_9 : decode cX8_init 9 = .ok (.bipush (-6), 2) := by decide +kernel
theorem dX8_init_11 : decode cX8_init 11 = .ok (.putfield 9, 3) := by decide +kernel
theorem dX8_init_14 : decode cX8_init 14 = .ok (.return_, 1) := by decide +kernel
theorem dX8_detail_0 : decode cX8_detail 0 = .ok (.iload_n 1, 1) := by decide +kernel
theorem dX8_detail_1 : decode cX8_detail 1 = .ok (.tableswitch 77 0 5 #[39, 44, 49, 54, 59, 72], 39) := by decide +kernel
theorem dX8_detail_40 : decode cX8_detail 40 = .ok (.aload_n 0, 1) := by decide +kernel
theorem dX8_detail_41 : decode cX8_detail 41 = .ok (.getfield 9, 3) := by decide +kernel
theorem dX8_detail_44 : decode cX8_detail 44 = .ok (.ireturn, 1) := by decide +kernel
theorem dX8_detail_45 : decode cX8_detail 45 = .ok (.aload_n 0, 1) := by decide +kernel
theorem dX8_detail_46 : decode cX8_detail 46 = .ok (.getfield 15, 3) := by decide +kernel
theorem dX8_detail_49 : decode cX8_detail 49 = .ok (.ireturn, 1) := by decide +kernel
theorem dX8_detail_50 : decode cX8_detail 50 = .ok (.aload_n 0, 1) := by decide +kernel
theorem dX8_detail_51 : decode cX8_detail 51 = .ok (.getfield 18, 3) := by decide +kernel
theorem dX8_detail_54 : decode cX8_detail 54 = .ok (.ireturn, 1) := by decide +kernel
theorem dX8_detail_55 : decode cX8_detail 55 = .ok (.aload_n 0, 1) := by decide +kernel
theorem dX8_detail_56 : decode cX8_detail 56 = .ok (.getfield 21, 3) := by decide +kernel
theorem dX8_detail_59 : decode cX8_detail 59 = .ok (.ireturn, 1) := by decide +kernel
theorem dX8_detail_60 : decode cX8_detail 60 = .ok (.aload_n 0, 1) := by decide +kernel
theorem dX8_detail_61 : decode cX8_detail 61 = .ok (.getfield 24, 3) := by decide +kernel
theorem dX8_detail_64 : decode cX8_detail 64 = .ok (.ifCond .eq 7, 3) := by decide +kernel
theorem dX8_detail_67 : decode cX8_detail 67 = .ok (.iconst 1, 1) := by decide +kernel
theorem dX8_detail_68 : decode cX8_detail 68 = .ok (.goto 4, 3) := by decide +kernel
theorem dX8_detail_71 : decode cX8_detail 71 = .ok (.iconst 0, 1) := by decide +kernel
theorem dX8_detail_72 : decode cX8_detail 72 = .ok (.ireturn, 1) := by decide +kernel
theorem dX8_detail_73 : decode cX8_detail 73 = .ok (.aload_n 0, 1) := by decide +kernel
theorem dX8_detail_74 : decode cX8_detail 74 = .ok (.getfield 28, 3) := by decide +kernel
theorem dX8_detail_77 : decode cX8_detail 77 = .ok (.ireturn, 1) := by decide +kernel
theorem dX8_detail_78 : decode cX8_detail 78 = .ok (.bipush (-2), 2) := by decide +kernel
theorem dX8_detail_80 : decode cX8_detail 80 = .ok (.ireturn, 1) := by decide +kernel
theorem dX9_init_0 : decode cX9_init 0 = .ok (.aload_n 0, 1) := by decide +kernel
theorem dX9_init_1 : decode cX9_init 1 = .ok (.invokespecial 3, 3) := by decide +kernel
theorem dX9_init_4 : decode cX9_init 4 = .ok (.aload_n 0, 1) := by decide +kernel
theorem dX9_init_5 : decode cX9_init 5 = .ok (.iload_n 1, 1) := by decide +kernel
theorem dX9_init_6 : decode cX9_init 6 = .ok (.putfield 9, 3) := by decide +kernel
theorem dX9_init_9 : decode cX9_init 9 = .ok (.aload_n 0, 1) := by decide +kernel
theorem dX9_init_10 : decode cX9_init 10 = .ok (.iload_n 2, 1) := by decide +kernel
theorem dX9_init_11 : decode cX9_init 11 = .ok (.putfield 15, 3) := by decide +kernel
theorem dX9_init_14 : decode cX9_init 14 = .ok (.aload_n 0, 1) := by decide +kernel
theorem dX9_init_15 : decode cX9_init 15 = .ok (.iload 6, 2) := by decide +kernel
theorem dX9_init_17 : decode cX9_init 17 = .ok (.putfield 18, 3) := by decide +kernel
theorem dX9_init_20 : decode cX9_init 20 = .ok (.aload_n 0, 1) := by decide +kernel
theorem dX9_init_21 : decode cX9_init 21 = .ok (.iconst 3, 1) := by decide +kernel
theorem dX9_init_22 : decode cX9_init 22 = .ok (.newarray .int, 2) := by decide +kernel
theorem dX9_init_24 : decode cX9_init 24 = .ok (.putfield 21, 3) := by decide +kernel
theorem dX9_init_27 : decode cX9_init 27 = .ok (.aload_n 0, 1) := by decide +kernel
theorem dX9_init_28 : decode cX9_init 28 = .ok (.getfield 21, 3) := by decide +kernel
theorem dX9_init_31 : decode cX9_init 31 = .ok (.iconst 0, 1) := by decide +kernel
theorem dX9_init_32 : decode cX9_init 32 = .ok (.iload_n 3, 1) := by decide +kernel
theorem dX9_init_33 : decode cX9_init 33 = .ok (.iastore, 1) := by decide +kernel
theorem dX9_init_34 : decode cX9_init 34 = .ok (.aload_n 0, 1) := by decide +kernel
theorem dX9_init_35 : decode cX9_init 35 = .ok (.getfield 21, 3) := by decide +kernel
theorem dX9_init_38 : decode cX9_init 38 = .ok (.iconst 1, 1) := by decide +kernel
theorem dX9_init_39 : decode cX9_init 39 = .ok (.iload 4, 2) := by decide +kernel
theorem dX9_init_41 : decode cX9_init 41 = .ok (.iastore, 1) := by decide +kernel
theorem dX9_init_42 : decode cX9_init 42 = .ok (.aload_n 0, 1) := by decide +kernel
theorem dX9_init_43 : decode cX9_init 43 = .ok (.getfield 21, 3) := by decide +kernel
theorem dX9_init_46 : decode cX9_init 46 = .ok (.iconst 2, 1) := by decide +kernel
theorem dX9_init_47 : decode cX9_init 47 = .ok (.iload 5, 2) := by decide +kernel
theorem dX9_init_49 : decode cX9_init 49 = .ok (.iastore, 1) := by decide +kernel
theorem dX9_init_50 : decode cX9_init 50 = .ok (.aload_n 0, 1) := by decide +kernel
theorem dX9_init_51 : decode cX9_init 51 = .ok (.bipush 8, 2) := by decide +kernel
theorem dX9_init_53 : decode cX9_init 53 = .ok (.newarray .int, 2) := by decide +kernel
theorem dX9_init_55 : decode cX9_init 55 = .ok (.putfield 25, 3) := by decide +kernel
theorem dX9_init_58 : decode cX9_init 58 = .ok (.aload_n 0, 1) := by decide +kernel
theorem dX9_init_59 : decode cX9_init 59 = .ok (.bipush 8, 2) := by decide +kernel
theorem dX9_init_61 : decode cX9_init 61 = .ok (.newarray .int, 2) := by decide +kernel
theorem dX9_init_63 : decode cX9_init 63 = .ok (.putfield 28, 3) := by decide +kernel
theorem dX9_init_66 : decode cX9_init 66 = .ok (.return_, 1) := by decide +kernel
theorem dX9_isFull_0 : decode cX9_isFull 0 = .ok (.aload_n 0, 1) := by decide +kernel
theorem dX9_isFull_1 : decode cX9_isFull 1 = .ok (.getfield 31, 3) := by decide +kernel
theorem dX9_isFull_4 : decode cX9_isFull 4 = .ok (.bipush 8, 2) := by decide +kernel
theorem dX9_isFull_6 : decode cX9_isFull 6 = .ok (.if_icmp .lt 7, 3) := by decide +kernel
theorem dX9_isFull_9 : decode cX9_isFull 9 = .ok (.iconst 1, 1) := by decide +kernel
theorem dX9_isFull_10 : decode cX9_isFull 10 = .ok (.goto 4, 3) := by decide +kernel
theorem dX9_isFull_13 : decode cX9_isFull 13 = .ok (.iconst 0, 1) := by decide +kernel
theorem dX9_isFull_14 : decode cX9_isFull 14 = .ok (.ireturn, 1) := by decide +kernel
set_option maxRecDepth 20000 in
theorem ggX9_addStep_X9_isFull : GoodIn wsX9_addStep wsX9_isFull := goodIn_r _ [8, 2, 9, 10, 11, 12, 13, 14, 15] (by decide +kernel) (by decide +kernel)
set_option maxRecDepth 20000 in
theorem gX9_addStep_X9_isFull : GoodIn wsX9_addStep (wsV RX9 34 RX9 yX9_isFull wsX9_isFull) := goodIn_app (goodIn_of _ (by decide +kernel)) ggX9_addStep_X9_isFull
theorem dX9_addStep_0 : decode cX9_addStep 0 = .ok (.aload_n 0, 1) := by decide +kernel
theorem dX9_addStep_1 : decode cX9_addStep 1 = .ok (.invokevirtual 34, 3) := by decide +kernel
theorem dX9_addStep_4 : decode cX9_addStep 4 = .ok (.ifCond .ne 33, 3) := by decide +kernel
theorem dX9_addStep_7 : decode cX9_addStep 7 = .ok (.aload_n 0, 1) := by decide +kernel
theorem dX9_addStep_8 : decode cX9_addStep 8 = .ok (.getfield 25, 3) := by decide +kernel
theorem dX9_addStep_11 : decode cX9_addStep 11 = .ok (.aload_n 0, 1) := by decide +kernel
theorem dX9_addStep_12 : decode cX9_addStep 12 = .ok (.getfield 31, 3) := by decide +kernel
theorem dX9_addStep_15 : decode cX9_addStep 15 = .ok (.iload_n 1, 1) := by decide +kernel
theorem dX9_addStep_16 : decode cX9_addStep 16 = .ok (.iastore, 1) := by decide +kernel
theorem dX9_addStep_17 : decode cX9_addStep 17 = .ok (.aload_n 0, 1) := by decide +kernel
theorem dX9_addStep_18 : decode cX9_addStep 18 = .ok (.getfield 28, 3) := by decide +kernel
theorem dX9_addStep_21 : decode cX9_addStep 21 = .ok (.aload_n 0, 1) := by decide +kernel
theorem dX9_addStep_22 : decode cX9_addStep 22 = .ok (.getfield 31, 3) := by decide +kernel
theorem dX9_addStep_25 : decode cX9_addStep 25 = .ok (.iload_n 2, 1) := by decide +kernel
theorem dX9_addStep_26 : decode cX9_addStep 26 = .ok (.iastore, 1) := by decide +kernel
theorem dX9_addStep_27 : decode cX9_addStep 27 = .ok (.aload_n 0, 1) := by decide +kernel
theorem dX9_addStep_28 : decode cX9_addStep 28 = .ok (.dup, 1) := by decide +kernel
theorem dX9_addStep_29 : decode cX9_addStep 29 = .ok (.getfield 31, 3) := by decide +kernel
theorem dX9_addStep_32 : decode cX9_addStep 32 = .ok (.iconst 1, 1) := by decide +kernel
theorem dX9_addStep_33 : decode cX9_addStep 33 = .ok (.iadd, 1) := by decide +kernel
theorem dX9_addStep_34 : decode cX9_addStep 34 = .ok (.putfield 31, 3) := by decide +kernel
theorem dX9_addStep_37 : decode cX9_addStep 37 = .ok (.return_, 1) := by decide +kernel
set_option maxRecDepth 20000 in
theorem ggX9_loaf_X9_ouncesAt : GoodIn wsX9_loaf wsX9_ouncesAt := goodIn_r _ [6, 7, 8, 9, 10, 11, 12, 13, 14, 15, 16] (by decide +kernel) (by decide +kernel)
set_option maxRecDepth 20000 in
theorem gX9_loaf_X9_ouncesAt : GoodIn wsX9_loaf (wsV RX9 38 RX9 yX9_ouncesAt wsX9_ouncesAt) := goodIn_app (goodIn_of _ (by decide +kernel)) ggX9_loaf_X9_ouncesAt
theorem dX9_loaf_0 : decode cX9_loaf 0 = .ok (.iload_n 1, 1) := by decide +kernel
theorem dX9_loaf_1 : decode cX9_loaf 1 = .ok (.ifCond .lt 8, 3) := by decide +kernel
theorem dX9_loaf_4 : decode cX9_loaf 4 = .ok (.iload_n 1, 1) := by decide +kernel
theorem dX9_loaf_5 : decode cX9_loaf 5 = .ok (.iconst 3, 1) := by decide +kernel
theorem dX9_loaf_6 : decode cX9_loaf 6 = .ok (.if_icmp .lt 5, 3) := by decide +kernel
theorem dX9_loaf_9 : decode cX9_loaf 9 = .ok (.iconst 0, 1) := by decide +kernel
theorem dX9_loaf_10 : decode cX9_loaf 10 = .ok (.ireturn, 1) := by decide +kernel
theorem dX9_loaf_11 : decode cX9_loaf 11 = .ok (.aload_n 0, 1) := by decide +kernel
theorem dX9_loaf_12 : decode cX9_loaf 12 = .ok (.iload_n 2, 1) := by decide +kernel
theorem dX9_loaf_13 : decode cX9_loaf 13 = .ok (.invokevirtual 38, 3) := by decide +kernel
theorem dX9_loaf_16 : decode cX9_loaf 16 = .ok (.aload_n 0, 1) := by decide +kernel
theorem dX9_loaf_17 : decode cX9_loaf 17 = .ok (.getfield 21, 3) := by decide +kernel
theorem dX9_loaf_20 : decode cX9_loaf 20 = .ok (.iload_n 1, 1) := by decide +kernel
theorem dX9_loaf_21 : decode cX9_loaf 21 = .ok (.iaload, 1) := by decide +kernel
theorem dX9_loaf_22 : decode cX9_loaf 22 = .ok (.imul, 1) := by decide +kernel
theorem dX9_loaf_23 : decode cX9_loaf 23 = .ok (.bipush 100, 2) := by decide +kernel
theorem dX9_loaf_25 : decode cX9_loaf 25 = .ok (.idiv, 1) := by decide +kernel
theorem dX9_loaf_26 : decode cX9_loaf 26 = .ok (.ireturn, 1) := by decide +kernel
theorem dX9_ouncesAt_0 : decode cX9_ouncesAt 0 = .ok (.iconst 0, 1) := by decide +kernel
theorem dX9_ouncesAt_1 : decode cX9_ouncesAt 1 = .ok (.istore_n 2, 1) := by decide +kernel
theorem dX9_ouncesAt_2 : decode cX9_ouncesAt 2 = .ok (.iconst (-1), 1) := by decide +kernel
theorem dX9_ouncesAt_3 : decode cX9_ouncesAt 3 = .ok (.istore_n 3, 1) := by decide +kernel
theorem dX9_ouncesAt_4 : decode cX9_ouncesAt 4 = .ok (.iconst 0, 1) := by decide +kernel
theorem dX9_ouncesAt_5 : decode cX9_ouncesAt 5 = .ok (.istore 4, 2) := by decide +kernel
theorem dX9_ouncesAt_7 : decode cX9_ouncesAt 7 = .ok (.iload 4, 2) := by decide +kernel
theorem dX9_ouncesAt_9 : decode cX9_ouncesAt 9 = .ok (.aload_n 0, 1) := by decide +kernel
theorem dX9_ouncesAt_10 : decode cX9_ouncesAt 10 = .ok (.getfield 31, 3) := by decide +kernel
theorem dX9_ouncesAt_13 : decode cX9_ouncesAt 13 = .ok (.if_icmp .ge 47, 3) := by decide +kernel
theorem dX9_ouncesAt_16 : decode cX9_ouncesAt 16 = .ok (.aload_n 0, 1) := by decide +kernel
theorem dX9_ouncesAt_17 : decode cX9_ouncesAt 17 = .ok (.getfield 25, 3) := by decide +kernel
theorem dX9_ouncesAt_20 : decode cX9_ouncesAt 20 = .ok (.iload 4, 2) := by decide +kernel
theorem dX9_ouncesAt_22 : decode cX9_ouncesAt 22 = .ok (.iaload, 1) := by decide +kernel
theorem dX9_ouncesAt_23 : decode cX9_ouncesAt 23 = .ok (.iload_n 1, 1) := by decide +kernel
theorem dX9_ouncesAt_24 : decode cX9_ouncesAt 24 = .ok (.if_icmp .gt 30, 3) := by decide +kernel
theorem dX9_ouncesAt_27 : decode cX9_ouncesAt 27 = .ok (.aload_n 0, 1) := by decide +kernel
theorem dX9_ouncesAt_28 : decode cX9_ouncesAt 28 = .ok (.getfield 25, 3) := by decide +kernel
theorem dX9_ouncesAt_31 : decode cX9_ouncesAt 31 = .ok (.iload 4, 2) := by decide +kernel
theorem dX9_ouncesAt_33 : decode cX9_ouncesAt 33 = .ok (.iaload, 1) := by decide +kernel
theorem dX9_ouncesAt_34 : decode cX9_ouncesAt 34 = .ok (.iload_n 3, 1) := by decide +kernel
theorem dX9_ouncesAt_35 : decode cX9_ouncesAt 35 = .ok (.if_icmp .lt 19, 3) := by decide +kernel
theorem dX9_ouncesAt_38 : decode cX9_ouncesAt 38 = .ok (.aload_n 0, 1) := by decide +kernel
theorem dX9_ouncesAt_39 : decode cX9_ouncesAt 39 = .ok (.getfield 25, 3) := by decide +kernel
theorem dX9_ouncesAt_42 : decode cX9_ouncesAt 42 = .ok (.iload 4, 2) := by decide +kernel
theorem dX9_ouncesAt_44 : decode cX9_ouncesAt 44 = .ok (.iaload, 1) := by decide +kernel
theorem dX9_ouncesAt_45 : decode cX9_ouncesAt 45 = .ok (.istore_n 3, 1) := by decide +kernel
theorem dX9_ouncesAt_46 : decode cX9_ouncesAt 46 = .ok (.aload_n 0, 1) := by decide +kernel
theorem dX9_ouncesAt_47 : decode cX9_ouncesAt 47 = .ok (.getfield 28, 3) := by decide +kernel
theorem dX9_ouncesAt_50 : decode cX9_ouncesAt 50 = .ok (.iload 4, 2) := by decide +kernel
theorem dX9_ouncesAt_52 : decode cX9_ouncesAt 52 = .ok (.iaload, 1) := by decide +kernel
theorem dX9_ouncesAt_53 : decode cX9_ouncesAt 53 = .ok (.istore_n 2, 1) := by decide +kernel
theorem dX9_ouncesAt_54 : decode cX9_ouncesAt 54 = .ok (.iinc 4 1, 3) := by decide +kernel
theorem dX9_ouncesAt_57 : decode cX9_ouncesAt 57 = .ok (.goto (-50), 3) := by decide +kernel
theorem dX9_ouncesAt_60 : decode cX9_ouncesAt 60 = .ok (.iload_n 2, 1) := by decide +kernel
theorem dX9_ouncesAt_61 : decode cX9_ouncesAt 61 = .ok (.ireturn, 1) := by decide +kernel
theorem dX10_init_0 : decode cX10_init 0 = .ok (.aload_n 0, 1) := by decide +kernel
theorem dX10_init_1 : decode cX10_init 1 = .ok (.invokespecial 3, 3) := by decide +kernel
theorem dX10_init_4 : decode cX10_init 4 = .ok (.aload_n 0, 1) := by decide +kernel
theorem dX10_init_5 : decode cX10_init 5 = .ok (.bipush 8, 2) := by decide +kernel
theorem dX10_init_7 : decode cX10_init 7 = .ok (.newarray .int, 2) := by decide +kernel
theorem dX10_init_9 : decode cX10_init 9 = .ok (.putfield 9, 3) := by decide +kernel
theorem dX10_init_12 : decode cX10_init 12 = .ok (.aload_n 0, 1) := by decide +kernel
theorem dX10_init_13 : decode cX10_init 13 = .ok (.iconst 1, 1) := by decide +kernel
theorem dX10_init_14 : decode cX10_init 14 = .ok (.putfield 15, 3) := by decide +kernel
theorem dX10_init_17 : decode cX10_init 17 = .ok (.return_, 1) := by decide +kernel
theorem dX10_dropRow_0 : decode cX10_dropRow 0 = .ok (.aload_n 0, 1) := by decide +kernel
theorem dX10_dropRow_1 : decode cX10_dropRow 1 = .ok (.iconst 0, 1) := by decide +kernel
theorem dX10_dropRow_2 : decode cX10_dropRow 2 = .ok (.putfield 19, 3) := by decide +kernel
theorem dX10_dropRow_5 : decode cX10_dropRow 5 = .ok (.aload_n 0, 1) := by decide +kernel
theorem dX10_dropRow_6 : decode cX10_dropRow 6 = .ok (.iconst 0, 1) := by decide +kernel
theorem dX10_dropRow_7 : decode cX10_dropRow 7 = .ok (.putfield 22, 3) := by decide +kernel
theorem dX10_dropRow_10 : decode cX10_dropRow 10 = .ok (.return_, 1) := by decide +kernel
theorem dX10_moveOn_0 : decode cX10_moveOn 0 = .ok (.aload_n 0, 1) := by decide +kernel
theorem dX10_moveOn_1 : decode cX10_moveOn 1 = .ok (.dup, 1) := by decide +kernel
theorem dX10_moveOn_2 : decode cX10_moveOn 2 = .ok (.getfield 22, 3) := by decide +kernel
theorem dX10_moveOn_5 : decode cX10_moveOn 5 = .ok (.iconst 1, 1) := by decide +kernel
theorem dX10_moveOn_6 : decode cX10_moveOn 6 = .ok (.iadd, 1) := by decide +kernel
theorem dX10_moveOn_7 : decode cX10_moveOn 7 = .ok (.putfield 22, 3) := by decide +kernel
theorem dX10_moveOn_10 : decode cX10_moveOn 10 = .ok (.return_, 1) := by decide +kernel
set_option maxRecDepth 20000 in
theorem ggX10_upNext_X10_draw : GoodIn wsX10_upNext wsX10_draw := goodIn_r _ [12, 7, 13, 14, 15, 16, 2, 1, 17, 18, 19, 20] (by decide +kernel) (by decide +kernel)
set_option maxRecDepth 20000 in
theorem gX10_upNext_X10_draw : GoodIn wsX10_upNext (wsV RX10 31 RX10 yX10_draw wsX10_draw) := goodIn_app (goodIn_of _ (by decide +kernel)) ggX10_upNext_X10_draw
theorem dX10_upNext_0 : decode cX10_upNext 0 = .ok (.aload_n 0, 1) := by decide +kernel
theorem dX10_upNext_1 : decode cX10_upNext 1 = .ok (.getfield 22, 3) := by decide +kernel
theorem dX10_upNext_4 : decode cX10_upNext 4 = .ok (.aload_n 0, 1) := by decide +kernel
theorem dX10_upNext_5 : decode cX10_upNext 5 = .ok (.getfield 19, 3) := by decide +kernel
theorem dX10_upNext_8 : decode cX10_upNext 8 = .ok (.if_icmp .lt 13, 3) := by decide +kernel
theorem dX10_upNext_11 : decode cX10_upNext 11 = .ok (.aload_n 0, 1) := by decide +kernel
theorem dX10_upNext_12 : decode cX10_upNext 12 = .ok (.iload_n 1, 1) := by decide +kernel
theorem dX10_upNext_13 : decode cX10_upNext 13 = .ok (.bipush 8, 2) := by decide +kernel
theorem dX10_upNext_15 : decode cX10_upNext 15 = .ok (.invokestatic 25, 3) := by decide +kernel
theorem dX10_upNext_18 : decode cX10_upNext 18 = .ok (.invokevirtual 31, 3) := by decide +kernel
theorem dX10_upNext_21 : decode cX10_upNext 21 = .ok (.aload_n 0, 1) := by decide +kernel
theorem dX10_upNext_22 : decode cX10_upNext 22 = .ok (.getfield 22, 3) := by decide +kernel
theorem dX10_upNext_25 : decode cX10_upNext 25 = .ok (.ifCond .lt 26, 3) := by decide +kernel
theorem dX10_upNext_28 : decode cX10_upNext 28 = .ok (.aload_n 0, 1) := by decide +kernel
theorem dX10_upNext_29 : decode cX10_upNext 29 = .ok (.getfield 22, 3) := by decide +kernel
theorem dX10_upNext_32 : decode cX10_upNext 32 = .ok (.aload_n 0, 1) := by decide +kernel
theorem dX10_upNext_33 : decode cX10_upNext 33 = .ok (.getfield 19, 3) := by decide +kernel
theorem dX10_upNext_36 : decode cX10_upNext 36 = .ok (.if_icmp .ge 15, 3) := by decide +kernel
theorem dX10_upNext_39 : decode cX10_upNext 39 = .ok (.aload_n 0, 1) := by decide +kernel
theorem dX10_upNext_40 : decode cX10_upNext 40 = .ok (.getfield 9, 3) := by decide +kernel
theorem dX10_upNext_43 : decode cX10_upNext 43 = .ok (.aload_n 0, 1) := by decide +kernel
theorem dX10_upNext_44 : decode cX10_upNext 44 = .ok (.getfield 22, 3) := by decide +kernel
theorem dX10_upNext_47 : decode cX10_upNext 47 = .ok (.iaload, 1) := by decide +kernel
theorem dX10_upNext_48 : decode cX10_upNext 48 = .ok (.goto 5, 3) := by decide +kernel
theorem dX10_upNext_51 : decode cX10_upNext 51 = .ok (.bipush (-6), 2) := by decide +kernel
theorem dX10_upNext_53 : decode cX10_upNext 53 = .ok (.ireturn, 1) := by decide +kernel
theorem dX10_draw_0 : decode cX10_draw 0 = .ok (.iconst 0, 1) := by decide +kernel
theorem dX10_draw_1 : decode cX10_draw 1 = .ok (.istore_n 2, 1) := by decide +kernel
theorem dX10_draw_2 : decode cX10_draw 2 = .ok (.iload_n 2, 1) := by decide +kernel
theorem dX10_draw_3 : decode cX10_draw 3 = .ok (.iload_n 1, 1) := by decide +kernel
theorem dX10_draw_4 : decode cX10_draw 4 = .ok (.if_icmp .ge 16, 3) := by decide +kernel
theorem dX10_draw_7 : decode cX10_draw 7 = .ok (.aload_n 0, 1) := by decide +kernel
theorem dX10_draw_8 : decode cX10_draw 8 = .ok (.getfield 9, 3) := by decide +kernel
theorem dX10_draw_11 : decode cX10_draw 11 = .ok (.iload_n 2, 1) := by decide +kernel
theorem dX10_draw_12 : decode cX10_draw 12 = .ok (.iload_n 2, 1) := by decide +kernel
theorem dX10_draw_13 : decode cX10_draw 13 = .ok (.iastore, 1) := by decide +kernel
theorem dX10_draw_14 : decode cX10_draw 14 = .ok (.iinc 2 1, 3) := by decide +kernel
theorem dX10_draw_17 : decode cX10_draw 17 = .ok (.goto (-15), 3) := by decide +kernel
theorem dX10_draw_20 : decode cX10_draw 20 = .ok (.iload_n 1, 1) := by decide +kernel
theorem dX10_draw_21 : decode cX10_draw 21 = .ok (.iconst 1, 1) := by decide +kernel
theorem dX10_draw_22 : decode cX10_draw 22 = .ok (.isub, 1) := by decide +kernel
theorem dX10_draw_23 : decode cX10_draw 23 = .ok (.istore_n 2, 1) := by decide +kernel
theorem dX10_draw_24 : decode cX10_draw 24 = .ok (.iload_n 2, 1) := by decide +kernel
theorem dX10_draw_25 : decode cX10_draw 25 = .ok (.iconst 1, 1) := by decide +kernel
theorem dX10_draw_26 : decode cX10_draw 26 = .ok (.if_icmp .lt 67, 3) := by decide +kernel
theorem dX10_draw_29 : decode cX10_draw 29 = .ok (.aload_n 0, 1) := by decide +kernel
theorem dX10_draw_30 : decode cX10_draw 30 = .ok (.aload_n 0, 1) := by decide +kernel
theorem dX10_draw_31 : decode cX10_draw 31 = .ok (.getfield 15, 3) := by decide +kernel
theorem dX10_draw_34 : decode cX10_draw 34 = .ok (.ldc 35, 2) := by decide +kernel
theorem dX10_draw_36 : decode cX10_draw 36 = .ok (.imul, 1) := by decide +kernel
theorem dX10_draw_37 : decode cX10_draw 37 = .ok (.sipush 12345, 3) := by decide +kernel
theorem dX10_draw_40 : decode cX10_draw 40 = .ok (.iadd, 1) := by decide +kernel
theorem dX10_draw_41 : decode cX10_draw 41 = .ok (.ldc 36, 2) := by decide +kernel
theorem dX10_draw_43 : decode cX10_draw 43 = .ok (.iand, 1) := by decide +kernel
theorem dX10_draw_44 : decode cX10_draw 44 = .ok (.putfield 15, 3) := by decide +kernel
theorem dX10_draw_47 : decode cX10_draw 47 = .ok (.aload_n 0, 1) := by decide +kernel
theorem dX10_draw_48 : decode cX10_draw 48 = .ok (.getfield 15, 3) := by decide +kernel
theorem dX10_draw_51 : decode cX10_draw 51 = .ok (.ldc 37, 2) := by decide +kernel
theorem dX10_draw_53 : decode cX10_draw 53 = .ok (.idiv, 1) := by decide +kernel
theorem dX10_draw_54 : decode cX10_draw 54 = .ok (.iload_n 2, 1) := by decide +kernel
theorem dX10_draw_55 : decode cX10_draw 55 = .ok (.iconst 1, 1) := by decide +kernel
theorem dX10_draw_56 : decode cX10_draw 56 = .ok (.iadd, 1) := by decide +kernel
theorem dX10_draw_57 : decode cX10_draw 57 = .ok (.irem, 1) := by decide +kernel
theorem dX10_draw_58 : decode cX10_draw 58 = .ok (.istore_n 3, 1) := by decide +kernel
theorem dX10_draw_59 : decode cX10_draw 59 = .ok (.aload_n 0, 1) := by decide +kernel
theorem dX10_draw_60 : decode cX10_draw 60 = .ok (.getfield 9, 3) := by decide +kernel
theorem dX10_draw_63 : decode cX10_draw 63 = .ok (.iload_n 2, 1) := by decide +kernel
theorem dX10_draw_64 : decode cX10_draw 64 = .ok (.iaload, 1) := by decide +kernel
theorem dX10_draw_65 : decode cX10_draw 65 = .ok (.istore 4, 2) := by decide +kernel
theorem dX10_draw_67 : decode cX10_draw 67 = .ok (.aload_n 0, 1) := by decide +kernel
theorem dX10_draw_68 : decode cX10_draw 68 = .ok (.getfield 9, 3) := by decide +kernel
theorem dX10_draw_71 : decode cX10_draw 71 = .ok (.iload_n 2, 1) := by decide +kernel
theorem dX10_draw_72 : decode cX10_draw 72 = .ok (.aload_n 0, 1) := by decide +kernel
theorem dX10_draw_73 : decode cX10_draw 73 = .ok (.getfield 9, 3) := by decide +kernel
theorem dX10_draw_76 : decode cX10_draw 76 = .ok (.iload_n 3, 1) := by decide +kernel
theorem dX10_draw_77 : decode cX10_draw 77 = .ok (.iaload, 1) := by decide +kernel
theorem dX10_draw_78 : decode cX10_draw 78 = .ok (.iastore, 1) := by decide +kernel
theorem dX10_draw_79 : decode cX10_draw 79 = .ok (.aload_n 0, 1) := by decide +kernel
theorem dX10_draw_80 : decode cX10_draw 80 = .ok (.getfield 9, 3) := by decide +kernel
theorem dX10_draw_83 : decode cX10_draw 83 = .ok (.iload_n 3, 1) := by decide +kernel
theorem dX10_draw_84 : decode cX10_draw 84 = .ok (.iload 4, 2) := by decide +kernel
theorem dX10_draw_86 : decode cX10_draw 86 = .ok (.iastore, 1) := by decide +kernel
theorem dX10_draw_87 : decode cX10_draw 87 = .ok (.iinc 2 (-1), 3) := by decide +kernel
theorem dX10_draw_90 : decode cX10_draw 90 = .ok (.goto (-66), 3) := by decide +kernel
theorem dX10_draw_93 : decode cX10_draw 93 = .ok (.aload_n 0, 1) := by decide +kernel
theorem dX10_draw_94 : decode cX10_draw 94 = .ok (.iload_n 1, 1) := by decide +kernel
theorem dX10_draw_95 : decode cX10_draw 95 = .ok (.putfield 19, 3) := by decide +kernel
theorem dX10_draw_98 : decode cX10_draw 98 = .ok (.aload_n 0, 1) := by decide +kernel
theorem dX10_draw_99 : decode cX10_draw 99 = .ok (.iconst 0, 1) := by decide +kernel
theorem dX10_draw_100 : decode cX10_draw 100 = .ok (.putfield 22, 3) := by decide +kernel
theorem dX10_draw_103 : decode cX10_draw 103 = .ok (.return_, 1) := by decide +kernel
set_option maxRecDepth 20000 in
theorem ggX11_init_X2_init : GoodIn wsX11_init wsX2_init := goodIn_r _ [31, 32, 2, 3, 33, 34, 35, 36, 37, 38, 39, 67, 68, 69, 70, 71, 72, 73] (by decide +kernel) (by decide +kernel)
set_option maxRecDepth 20000 in
theorem gX11_init_X2_init : GoodIn wsX11_init (wsX2_init) := ggX11_init_X2_init
set_option maxRecDepth 20000 in
theorem ggX11_init_X7_init : GoodIn wsX11_init wsX7_init := goodIn_r _ [42, 43, 2, 3, 44, 45, 46, 86, 87] (by decide +kernel) (by decide +kernel)
set_option maxRecDepth 20000 in
theorem gX11_init_X7_init : GoodIn wsX11_init (wsX7_init) := ggX11_init_X7_init
set_option maxRecDepth 20000 in
theorem ggX11_init_X5_init : GoodIn wsX11_init wsX5_init := goodIn_r _ [49, 50, 2, 3, 51, 52, 88, 89] (by decide +kernel) (by decide +kernel)
set_option maxRecDepth 20000 in
theorem gX11_init_X5_init : GoodIn wsX11_init (wsX5_init) := ggX11_init_X5_init
set_option maxRecDepth 20000 in
theorem ggX11_init_X10_init : GoodIn wsX11_init wsX10_init := goodIn_r _ [55, 56, 2, 3, 37, 57, 58, 90, 91, 92, 93] (by decide +kernel) (by decide +kernel)
set_option maxRecDepth 20000 in
theorem gX11_init_X10_init : GoodIn wsX11_init (wsX10_init) := ggX11_init_X10_init
set_option maxRecDepth 20000 in
theorem ggX11_init_X4_init : GoodIn wsX11_init wsX4_init := goodIn_r _ [61, 62, 2, 3, 37, 63, 64, 65, 66, 94, 95, 96, 97, 98, 99, 100, 101] (by decide +kernel) (by decide +kernel)
set_option maxRecDepth 20000 in
theorem gX11_init_X4_init : GoodIn wsX11_init (wsX4_init) := ggX11_init_X4_init
theorem dX11_init_0 : decode cX11_init 0 = .ok (.aload_n 0, 1) := by decide +kernel
theorem dX11_init_1 : decode cX11_init 1 = .ok (.invokespecial 1, 3) := by decide +kernel
theorem dX11_init_4 : decode cX11_init 4 = .ok (.aload_n 0, 1) := by decide +kernel
theorem dX11_init_5 : decode cX11_init 5 = .ok (.new 7, 3) := by decide +kernel
theorem dX11_init_8 : decode cX11_init 8 = .ok (.dup, 1) := by decide +kernel
theorem dX11_init_9 : decode cX11_init 9 = .ok (.invokespecial 9, 3) := by decide +kernel
theorem dX11_init_12 : decode cX11_init 12 = .ok (.putfield 10, 3) := by decide +kernel
theorem dX11_init_15 : decode cX11_init 15 = .ok (.aload_n 0, 1) := by decide +kernel
theorem dX11_init_16 : decode cX11_init 16 = .ok (.new 16, 3) := by decide +kernel
theorem dX11_init_19 : decode cX11_init 19 = .ok (.dup, 1) := by decide +kernel
theorem dX11_init_20 : decode cX11_init 20 = .ok (.invokespecial 18, 3) := by decide +kernel
theorem dX11_init_23 : decode cX11_init 23 = .ok (.putfield 19, 3) := by decide +kernel
theorem dX11_init_26 : decode cX11_init 26 = .ok (.aload_n 0, 1) := by decide +kernel
theorem dX11_init_27 : decode cX11_init 27 = .ok (.new 23, 3) := by decide +kernel
theorem dX11_init_30 : decode cX11_init 30 = .ok (.dup, 1) := by decide +kernel
theorem dX11_init_31 : decode cX11_init 31 = .ok (.invokespecial 25, 3) := by decide +kernel
theorem dX11_init_34 : decode cX11_init 34 = .ok (.putfield 26, 3) := by decide +kernel
theorem dX11_init_37 : decode cX11_init 37 = .ok (.aload_n 0, 1) := by decide +kernel
theorem dX11_init_38 : decode cX11_init 38 = .ok (.new 30, 3) := by decide +kernel
theorem dX11_init_41 : decode cX11_init 41 = .ok (.dup, 1) := by decide +kernel
theorem dX11_init_42 : decode cX11_init 42 = .ok (.invokespecial 32, 3) := by decide +kernel
theorem dX11_init_45 : decode cX11_init 45 = .ok (.putfield 33, 3) := by decide +kernel
theorem dX11_init_48 : decode cX11_init 48 = .ok (.aload_n 0, 1) := by decide +kernel
theorem dX11_init_49 : decode cX11_init 49 = .ok (.new 37, 3) := by decide +kernel
theorem dX11_init_52 : decode cX11_init 52 = .ok (.dup, 1) := by decide +kernel
theorem dX11_init_53 : decode cX11_init 53 = .ok (.invokespecial 39, 3) := by decide +kernel
theorem dX11_init_56 : decode cX11_init 56 = .ok (.putfield 40, 3) := by decide +kernel
theorem dX11_init_59 : decode cX11_init 59 = .ok (.aload_n 0, 1) := by decide +kernel
theorem dX11_init_60 : decode cX11_init 60 = .ok (.bipush 8, 2) := by decide +kernel
theorem dX11_init_62 : decode cX11_init 62 = .ok (.anewarray 44, 3) := by decide +kernel
theorem dX11_init_65 : decode cX11_init 65 = .ok (.putfield 46, 3) := by decide +kernel
theorem dX11_init_68 : decode cX11_init 68 = .ok (.aload_n 0, 1) := by decide +kernel
theorem dX11_init_69 : decode cX11_init 69 = .ok (.bipush 16, 2) := by decide +kernel
theorem dX11_init_71 : decode cX11_init 71 = .ok (.putfield 50, 3) := by decide +kernel
theorem dX11_init_74 : decode cX11_init 74 = .ok (.aload_n 0, 1) := by decide +kernel
theorem dX11_init_75 : decode cX11_init 75 = .ok (.iconst 1, 1) := by decide +kernel
theorem dX11_init_76 : decode cX11_init 76 = .ok (.putfield 54, 3) := by decide +kernel
theorem dX11_init_79 : decode cX11_init 79 = .ok (.aload_n 0, 1) := by decide +kernel
theorem dX11_init_80 : decode cX11_init 80 = .ok (.bipush 12, 2) := by decide +kernel
theorem dX11_init_82 : decode cX11_init 82 = .ok (.putfield 57, 3) := by decide +kernel
theorem dX11_init_85 : decode cX11_init 85 = .ok (.return_, 1) := by decide +kernel
set_option maxRecDepth 20000 in
theorem ggX11_go_X11_isOutside : GoodIn wsX11_go wsX11_isOutside := goodIn_r _ [7] (by decide +kernel) (by decide +kernel)
set_option maxRecDepth 20000 in
theorem gX11_go_X11_isOutside : GoodIn wsX11_go (va_wsS RX11 60 yX11_isOutside wsX11_isOutside) := goodIn_app (goodIn_of _ (by decide +kernel)) ggX11_go_X11_isOutside
set_option maxRecDepth 20000 in
theorem ggX11_go_X11_weekNow : GoodIn wsX11_go wsX11_weekNow := goodIn_r _ [11, 1, 45, 46, 47, 48, 49, 50, 51, 52, 53, 54, 55, 56] (by decide +kernel) (by decide +kernel)
set_option maxRecDepth 20000 in
theorem gX11_go_X11_weekNow : GoodIn wsX11_go (wsV RX11 68 RX11 yX11_weekNow wsX11_weekNow) := goodIn_app (goodIn_of _ (by decide +kernel)) ggX11_go_X11_weekNow
set_option maxRecDepth 20000 in
theorem ggX11_go_X4_endWeek : GoodIn wsX11_go wsX4_endWeek := goodIn_r _ [16, 17, 18, 19, 20, 21, 22, 23, 24, 25, 26, 15, 27, 28, 29, 57, 58, 59, 60, 61, 62, 63, 64] (by decide +kernel) (by decide +kernel)
set_option maxRecDepth 20000 in
theorem gX11_go_X4_endWeek : GoodIn wsX11_go (wsV RX11 72 RX4 yX4_endWeek wsX4_endWeek) := goodIn_app (goodIn_of _ (by decide +kernel)) ggX11_go_X4_endWeek
set_option maxRecDepth 20000 in
theorem ggX11_go_X4_beginWeek : GoodIn wsX11_go wsX4_beginWeek := goodIn_r _ [33, 18, 34, 35, 36, 37, 38, 15, 39, 40, 41, 42, 43, 22, 44, 57, 58, 59, 60, 61, 62, 63, 64] (by decide +kernel) (by decide +kernel)
set_option maxRecDepth 20000 in
theorem gX11_go_X4_beginWeek : GoodIn wsX11_go (wsV RX11 75 RX4 yX4_beginWeek wsX4_beginWeek) := goodIn_app (goodIn_of _ (by decide +kernel)) ggX11_go_X4_beginWeek
theorem dX11_go_0 : decode cX11_go 0 = .ok (.iload_n 1, 1) := by decide +kernel
theorem dX11_go_1 : decode cX11_go 1 = .ok (.iconst 1, 1) := by decide +kernel
theorem dX11_go_2 : decode cX11_go 2 = .ok (.sipush 5000, 3) := by decide +kernel
theorem dX11_go_5 : decode cX11_go 5 = .ok (.invokestatic 60, 3) := by decide +kernel
theorem dX11_go_8 : decode cX11_go 8 = .ok (.ifCond .eq 6, 3) := by decide +kernel
theorem dX11_go_11 : decode cX11_go 11 = .ok (.bipush (-2), 2) := by decide +kernel
theorem dX11_go_13 : decode cX11_go 13 = .ok (.ireturn, 1) := by decide +kernel
theorem dX11_go_14 : decode cX11_go 14 = .ok (.aload_n 0, 1) := by decide +kernel
theorem dX11_go_15 : decode cX11_go 15 = .ok (.getfield 64, 3) := by decide +kernel
theorem dX11_go_18 : decode cX11_go 18 = .ok (.iload_n 1, 1) := by decide +kernel
theorem dX11_go_19 : decode cX11_go 19 = .ok (.iadd, 1) := by decide +kernel
theorem dX11_go_20 : decode cX11_go 20 = .ok (.istore_n 2, 1) := by decide +kernel
theorem dX11_go_21 : decode cX11_go 21 = .ok (.iload_n 2, 1) := by decide +kernel
theorem dX11_go_22 : decode cX11_go 22 = .ok (.ldc 67, 2) := by decide +kernel
theorem dX11_go_24 : decode cX11_go 24 = .ok (.if_icmp .lt 6, 3) := by decide +kernel
theorem dX11_go_27 : decode cX11_go 27 = .ok (.bipush (-3), 2) := by decide +kernel
theorem dX11_go_29 : decode cX11_go 29 = .ok (.ireturn, 1) := by decide +kernel
theorem dX11_go_30 : decode cX11_go 30 = .ok (.iload_n 2, 1) := by decide +kernel
theorem dX11_go_31 : decode cX11_go 31 = .ok (.sipush 168, 3) := by decide +kernel
theorem dX11_go_34 : decode cX11_go 34 = .ok (.idiv, 1) := by decide +kernel
theorem dX11_go_35 : decode cX11_go 35 = .ok (.istore_n 3, 1) := by decide +kernel
theorem dX11_go_36 : decode cX11_go 36 = .ok (.aload_n 0, 1) := by decide +kernel
theorem dX11_go_37 : decode cX11_go 37 = .ok (.invokevirtual 68, 3) := by decide +kernel
theorem dX11_go_40 : decode cX11_go 40 = .ok (.iconst 1, 1) := by decide +kernel
theorem dX11_go_41 : decode cX11_go 41 = .ok (.iadd, 1) := by decide +kernel
theorem dX11_go_42 : decode cX11_go 42 = .ok (.istore 4, 2) := by decide +kernel
theorem dX11_go_44 : decode cX11_go 44 = .ok (.iload 4, 2) := by decide +kernel
theorem dX11_go_46 : decode cX11_go 46 = .ok (.iload_n 3, 1) := by decide +kernel
theorem dX11_go_47 : decode cX11_go 47 = .ok (.if_icmp .gt 25, 3) := by decide +kernel
theorem dX11_go_50 : decode cX11_go 50 = .ok (.aload_n 0, 1) := by decide +kernel
theorem dX11_go_51 : decode cX11_go 51 = .ok (.getfield 40, 3) := by decide +kernel
theorem dX11_go_54 : decode cX11_go 54 = .ok (.invokevirtual 72, 3) := by decide +kernel
theorem dX11_go_57 : decode cX11_go 57 = .ok (.aload_n 0, 1) := by decide +kernel
theorem dX11_go_58 : decode cX11_go 58 = .ok (.getfield 40, 3) := by decide +kernel
theorem dX11_go_61 : decode cX11_go 61 = .ok (.iload 4, 2) := by decide +kernel
theorem dX11_go_63 : decode cX11_go 63 = .ok (.invokevirtual 75, 3) := by decide +kernel
theorem dX11_go_66 : decode cX11_go 66 = .ok (.iinc 4 1, 3) := by decide +kernel
theorem dX11_go_69 : decode cX11_go 69 = .ok (.goto (-25), 3) := by decide +kernel
theorem dX11_go_72 : decode cX11_go 72 = .ok (.aload_n 0, 1) := by decide +kernel
theorem dX11_go_73 : decode cX11_go 73 = .ok (.iload_n 2, 1) := by decide +kernel
theorem dX11_go_74 : decode cX11_go 74 = .ok (.putfield 64, 3) := by decide +kernel
theorem dX11_go_77 : decode cX11_go 77 = .ok (.iload_n 3, 1) := by decide +kernel
theorem dX11_go_78 : decode cX11_go 78 = .ok (.ireturn, 1) := by decide +kernel
set_option maxRecDepth 20000 in
theorem ggX11_baker_X0_init : GoodIn wsX11_baker wsX0_init := goodIn_r _ [8, 9, 10, 11] (by decide +kernel) (by decide +kernel)
set_option maxRecDepth 20000 in
theorem gX11_baker_X0_init_n82 : GoodIn wsX11_baker (wsX0_init) := ggX11_baker_X0_init
set_option maxRecDepth 20000 in
theorem ggX11_baker_X10_dropRow : GoodIn wsX11_baker wsX10_dropRow := goodIn_r _ [16, 17, 18, 39, 40, 41, 42] (by decide +kernel) (by decide +kernel)
set_option maxRecDepth 20000 in
theorem gX11_baker_X10_dropRow : GoodIn wsX11_baker (wsV RX11 83 RX10 yX10_dropRow wsX10_dropRow) := goodIn_app (goodIn_of _ (by decide +kernel)) ggX11_baker_X10_dropRow
theorem dX11_baker_0 : decode cX11_baker 0 = .ok (.aload_n 0, 1) := by decide +kernel
theorem dX11_baker_1 : decode cX11_baker 1 = .ok (.getfield 79, 3) := by decide +kernel
theorem dX11_baker_4 : decode cX11_baker 4 = .ok (.bipush 8, 2) := by decide +kernel
theorem dX11_baker_6 : decode cX11_baker 6 = .ok (.if_icmp .lt 6, 3) := by decide +kernel
theorem dX11_baker_9 : decode cX11_baker 9 = .ok (.bipush (-4), 2) := by decide +kernel
theorem dX11_baker_11 : decode cX11_baker 11 = .ok (.ireturn, 1) := by decide +kernel
theorem dX11_baker_12 : decode cX11_baker 12 = .ok (.aload_n 0, 1) := by decide +kernel
theorem dX11_baker_13 : decode cX11_baker 13 = .ok (.getfield 46, 3) := by decide +kernel
theorem dX11_baker_16 : decode cX11_baker 16 = .ok (.aload_n 0, 1) := by decide +kernel
theorem dX11_baker_17 : decode cX11_baker 17 = .ok (.getfield 79, 3) := by decide +kernel
theorem dX11_baker_20 : decode cX11_baker 20 = .ok (.new 44, 3) := by decide +kernel
theorem dX11_baker_23 : decode cX11_baker 23 = .ok (.dup, 1) := by decide +kernel
theorem dX11_baker_24 : decode cX11_baker 24 = .ok (.invokespecial 82, 3) := by decide +kernel
theorem dX11_baker_27 : decode cX11_baker 27 = .ok (.aastore, 1) := by decide +kernel
theorem dX11_baker_28 : decode cX11_baker 28 = .ok (.aload_n 0, 1) := by decide +kernel
theorem dX11_baker_29 : decode cX11_baker 29 = .ok (.dup, 1) := by decide +kernel
theorem dX11_baker_30 : decode cX11_baker 30 = .ok (.getfield 79, 3) := by decide +kernel
theorem dX11_baker_33 : decode cX11_baker 33 = .ok (.iconst 1, 1) := by decide +kernel
theorem dX11_baker_34 : decode cX11_baker 34 = .ok (.iadd, 1) := by decide +kernel
theorem dX11_baker_35 : decode cX11_baker 35 = .ok (.putfield 79, 3) := by decide +kernel
theorem dX11_baker_38 : decode cX11_baker 38 = .ok (.aload_n 0, 1) := by decide +kernel
theorem dX11_baker_39 : decode cX11_baker 39 = .ok (.getfield 33, 3) := by decide +kernel
theorem dX11_baker_42 : decode cX11_baker 42 = .ok (.invokevirtual 83, 3) := by decide +kernel
theorem dX11_baker_45 : decode cX11_baker 45 = .ok (.aload_n 0, 1) := by decide +kernel
theorem dX11_baker_46 : decode cX11_baker 46 = .ok (.getfield 79, 3) := by decide +kernel
theorem dX11_baker_49 : decode cX11_baker 49 = .ok (.iconst 1, 1) := by decide +kernel
theorem dX11_baker_50 : decode cX11_baker 50 = .ok (.isub, 1) := by decide +kernel
theorem dX11_baker_51 : decode cX11_baker 51 = .ok (.ireturn, 1) := by decide +kernel
set_option maxRecDepth 20000 in
theorem ggX11_buy_X11_bakerAt : GoodIn wsX11_buy wsX11_bakerAt := goodIn_r _ [16, 17, 18, 64, 65, 66, 67, 68, 69, 70, 71, 72, 73, 74, 75] (by decide +kernel) (by decide +kernel)
set_option maxRecDepth 20000 in
theorem gX11_buy_X11_bakerAt : GoodIn wsX11_buy (wsV RX11 86 RX11 yX11_bakerAt wsX11_bakerAt) := goodIn_app (goodIn_of _ (by decide +kernel)) ggX11_buy_X11_bakerAt
set_option maxRecDepth 20000 in
theorem ggX11_buy_X11_isOutside : GoodIn wsX11_buy wsX11_isOutside := goodIn_r _ [21] (by decide +kernel) (by decide +kernel)
set_option maxRecDepth 20000 in
theorem gX11_buy_X11_isOutside : GoodIn wsX11_buy (va_wsS RX11 60 yX11_isOutside wsX11_isOutside) := goodIn_app (goodIn_of _ (by decide +kernel)) ggX11_buy_X11_isOutside
set_option maxRecDepth 20000 in
theorem ggX11_buy_X2_isFull : GoodIn wsX11_buy wsX2_isFull := goodIn_r _ [26, 27, 84, 85, 86, 87, 88, 89, 90] (by decide +kernel) (by decide +kernel)
set_option maxRecDepth 20000 in
theorem gX11_buy_X2_isFull : GoodIn wsX11_buy (wsV RX11 91 RX2 yX2_isFull wsX2_isFull) := goodIn_app (goodIn_of _ (by decide +kernel)) ggX11_buy_X2_isFull
set_option maxRecDepth 20000 in
theorem ggX11_buy_X6_init : GoodIn wsX11_buy wsX6_init := goodIn_r _ [30, 31, 32, 33, 34, 35, 36, 37, 38, 39, 40, 41, 42, 43, 76, 77, 78, 79, 80, 81, 82, 83, 99, 100, 101, 102, 103, 104, 105, 106, 107, 108, 109, 110, 111, 112, 113, 114, 115, 116, 117] (by decide +kernel) (by decide +kernel)
set_option maxRecDepth 20000 in
theorem gX11_buy_X6_init : GoodIn wsX11_buy (wsX6_init) := ggX11_buy_X6_init
set_option maxRecDepth 20000 in
theorem ggX11_buy_X2_enter : GoodIn wsX11_buy wsX2_enter := goodIn_r _ [47, 48, 27, 49, 23, 24, 25, 26, 84, 85, 86, 87, 88, 89, 90] (by decide +kernel) (by decide +kernel)
set_option maxRecDepth 20000 in
theorem gX11_buy_X2_enter : GoodIn wsX11_buy (wsV RX11 103 RX2 yX2_enter wsX2_enter) := goodIn_app (goodIn_of _ (by decide +kernel)) ggX11_buy_X2_enter
set_option maxRecDepth 20000 in
theorem ggX11_buy_X7_note : GoodIn wsX11_buy wsX7_note := goodIn_r _ [54, 55, 56, 57, 58, 59, 60, 61, 62, 35, 63, 42, 118, 119, 76, 77, 78, 79, 80, 81, 82, 83, 99, 100, 101, 102, 103, 104, 105, 106, 107, 108, 109, 110, 111, 112, 113, 114, 115, 116, 117] (by decide +kernel) (by decide +kernel)
set_option maxRecDepth 20000 in
theorem gX11_buy_X7_note : GoodIn wsX11_buy (wsV RX11 107 RX7 yX7_note wsX7_note) := goodIn_app (goodIn_of _ (by decide +kernel)) ggX11_buy_X7_note
theorem dX11_buy_0 : decode cX11_buy 0 = .ok (.aload_n 0, 1) := by decide +kernel
theorem dX11_buy_1 : decode cX11_buy 1 = .ok (.iload_n 1, 1) := by decide +kernel
theorem dX11_buy_2 : decode cX11_buy 2 = .ok (.invokevirtual 86, 3) := by decide +kernel
theorem dX11_buy_5 : decode cX11_buy 5 = .ok (.astore 4, 2) := by decide +kernel
theorem dX11_buy_7 : decode cX11_buy 7 = .ok (.aload 4, 2) := by decide +kernel
theorem dX11_buy_9 : decode cX11_buy 9 = .ok (.ifnonnull 5, 3) := by decide +kernel
theorem dX11_buy_12 : decode cX11_buy 12 = .ok (.iconst (-1), 1) := by decide +kernel
theorem dX11_buy_13 : decode cX11_buy 13 = .ok (.ireturn, 1) := by decide +kernel
theorem dX11_buy_14 : decode cX11_buy 14 = .ok (.iload_n 2, 1) := by decide +kernel
theorem dX11_buy_15 : decode cX11_buy 15 = .ok (.iconst 1, 1) := by decide +kernel
theorem dX11_buy_16 : decode cX11_buy 16 = .ok (.ldc 90, 2) := by decide +kernel
theorem dX11_buy_18 : decode cX11_buy 18 = .ok (.invokestatic 60, 3) := by decide +kernel
theorem dX11_buy_21 : decode cX11_buy 21 = .ok (.ifCond .ne 14, 3) := by decide +kernel
theorem dX11_buy_24 : decode cX11_buy 24 = .ok (.iload_n 3, 1) := by decide +kernel
theorem dX11_buy_25 : decode cX11_buy 25 = .ok (.iconst 1, 1) := by decide +kernel
theorem dX11_buy_26 : decode cX11_buy 26 = .ok (.sipush 1000, 3) := by decide +kernel
theorem dX11_buy_29 : decode cX11_buy 29 = .ok (.invokestatic 60, 3) := by decide +kernel
theorem dX11_buy_32 : decode cX11_buy 32 = .ok (.ifCond .eq 6, 3) := by decide +kernel
theorem dX11_buy_35 : decode cX11_buy 35 = .ok (.bipush (-2), 2) := by decide +kernel
theorem dX11_buy_37 : decode cX11_buy 37 = .ok (.ireturn, 1) := by decide +kernel
theorem dX11_buy_38 : decode cX11_buy 38 = .ok (.aload_n 0, 1) := by decide +kernel
theorem dX11_buy_39 : decode cX11_buy 39 = .ok (.getfield 10, 3) := by decide +kernel
theorem dX11_buy_42 : decode cX11_buy 42 = .ok (.invokevirtual 91, 3) := by decide +kernel
theorem dX11_buy_45 : decode cX11_buy 45 = .ok (.ifCond .eq 6, 3) := by decide +kernel
theorem dX11_buy_48 : decode cX11_buy 48 = .ok (.bipush (-4), 2) := by decide +kernel
theorem dX11_buy_50 : decode cX11_buy 50 = .ok (.ireturn, 1) := by decide +kernel
theorem dX11_buy_51 : decode cX11_buy 51 = .ok (.new 95, 3) := by decide +kernel
theorem dX11_buy_54 : decode cX11_buy 54 = .ok (.dup, 1) := by decide +kernel
theorem dX11_buy_55 : decode cX11_buy 55 = .ok (.aload_n 0, 1) := by decide +kernel
theorem dX11_buy_56 : decode cX11_buy 56 = .ok (.getfield 10, 3) := by decide +kernel
theorem dX11_buy_59 : decode cX11_buy 59 = .ok (.getfield 97, 3) := by decide +kernel
theorem dX11_buy_62 : decode cX11_buy 62 = .ok (.aload_n 0, 1) := by decide +kernel
theorem dX11_buy_63 : decode cX11_buy 63 = .ok (.getfield 64, 3) := by decide +kernel
theorem dX11_buy_66 : decode cX11_buy 66 = .ok (.iload_n 1, 1) := by decide +kernel
theorem dX11_buy_67 : decode cX11_buy 67 = .ok (.iload_n 2, 1) := by decide +kernel
theorem dX11_buy_68 : decode cX11_buy 68 = .ok (.iload_n 3, 1) := by decide +kernel
theorem dX11_buy_69 : decode cX11_buy 69 = .ok (.invokespecial 100, 3) := by decide +kernel
theorem dX11_buy_72 : decode cX11_buy 72 = .ok (.astore 5, 2) := by decide +kernel
theorem dX11_buy_74 : decode cX11_buy 74 = .ok (.aload_n 0, 1) := by decide +kernel
theorem dX11_buy_75 : decode cX11_buy 75 = .ok (.getfield 10, 3) := by decide +kernel
theorem dX11_buy_78 : decode cX11_buy 78 = .ok (.aload 5, 2) := by decide +kernel
theorem dX11_buy_80 : decode cX11_buy 80 = .ok (.invokevirtual 103, 3) := by decide +kernel
theorem dX11_buy_83 : decode cX11_buy 83 = .ok (.aload_n 0, 1) := by decide +kernel
theorem dX11_buy_84 : decode cX11_buy 84 = .ok (.getfield 19, 3) := by decide +kernel
theorem dX11_buy_87 : decode cX11_buy 87 = .ok (.aload 5, 2) := by decide +kernel
theorem dX11_buy_89 : decode cX11_buy 89 = .ok (.invokevirtual 107, 3) := by decide +kernel
theorem dX11_buy_92 : decode cX11_buy 92 = .ok (.aload 4, 2) := by decide +kernel
theorem dX11_buy_94 : decode cX11_buy 94 = .ok (.dup, 1) := by decide +kernel
theorem dX11_buy_95 : decode cX11_buy 95 = .ok (.getfield 111, 3) := by decide +kernel
theorem dX11_buy_98 : decode cX11_buy 98 = .ok (.iconst 1, 1) := by decide +kernel
theorem dX11_buy_99 : decode cX11_buy 99 = .ok (.iadd, 1) := by decide +kernel
theorem dX11_buy_100 : decode cX11_buy 100 = .ok (.putfield 111, 3) := by decide +kernel
theorem dX11_buy_103 : decode cX11_buy 103 = .ok (.aload 5, 2) := by decide +kernel
theorem dX11_buy_105 : decode cX11_buy 105 = .ok (.getfield 114, 3) := by decide +kernel
theorem dX11_buy_108 : decode cX11_buy 108 = .ok (.ireturn, 1) := by decide +kernel
set_option maxRecDepth 20000 in
theorem ggX11_grind_X2_entryAt : GoodIn wsX11_grind wsX2_entryAt := goodIn_r _ [8, 9, 10, 55, 56, 57, 58, 59, 60, 61] (by decide +kernel) (by decide +kernel)
set_option maxRecDepth 20000 in
theorem gX11_grind_X2_entryAt : GoodIn wsX11_grind (wsV RX11 117 RX2 yX2_entryAt wsX2_entryAt) := goodIn_app (goodIn_of _ (by decide +kernel)) ggX11_grind_X2_entryAt
set_option maxRecDepth 20000 in
theorem ggX11_grind_X11_toMill : GoodIn wsX11_grind wsX11_toMill := goodIn_r _ [15, 16, 17, 3, 18, 1, 19, 20, 21, 22, 23, 24, 25, 7, 26, 27, 28, 29, 30, 31, 14, 32, 33, 34, 35, 36, 37, 38, 39, 40, 41, 42, 43, 44, 45, 46, 47, 48, 49, 50, 51, 52, 53, 54, 62, 63, 64, 65, 66, 67, 68, 69, 70, 71, 72, 73, 74, 75, 76, 77, 78, 79, 80, 81, 82, 83, 84, 85, 86, 87, 88, 55, 56, 57, 58, 59, 60, 61] (by decide +kernel) (by decide +kernel)
set_option maxRecDepth 20000 in
theorem gX11_grind_X11_toMill : GoodIn wsX11_grind (wsV RX11 125 RX11 yX11_toMill wsX11_toMill) := goodIn_app (goodIn_of _ (by decide +kernel)) ggX11_grind_X11_toMill
theorem dX11_grind_0 : decode cX11_grind 0 = .ok (.aload_n 0, 1) := by decide +kernel
theorem dX11_grind_1 : decode cX11_grind 1 = .ok (.getfield 10, 3) := by decide +kernel
theorem dX11_grind_4 : decode cX11_grind 4 = .ok (.iload_n 1, 1) := by decide +kernel
theorem dX11_grind_5 : decode cX11_grind 5 = .ok (.invokevirtual 117, 3) := by decide +kernel
theorem dX11_grind_8 : decode cX11_grind 8 = .ok (.astore_n 2, 1) := by decide +kernel
theorem dX11_grind_9 : decode cX11_grind 9 = .ok (.aload_n 2, 1) := by decide +kernel
theorem dX11_grind_10 : decode cX11_grind 10 = .ok (.ifnonnull 5, 3) := by decide +kernel
theorem dX11_grind_13 : decode cX11_grind 13 = .ok (.iconst (-1), 1) := by decide +kernel
theorem dX11_grind_14 : decode cX11_grind 14 = .ok (.ireturn, 1) := by decide +kernel
theorem dX11_grind_15 : decode cX11_grind 15 = .ok (.aload_n 2, 1) := by decide +kernel
theorem dX11_grind_16 : decode cX11_grind 16 = .ok (.instanceof 95, 3) := by decide +kernel
theorem dX11_grind_19 : decode cX11_grind 19 = .ok (.ifCond .eq 26, 3) := by decide +kernel
theorem dX11_grind_22 : decode cX11_grind 22 = .ok (.aload_n 2, 1) := by decide +kernel
theorem dX11_grind_23 : decode cX11_grind 23 = .ok (.checkcast 95, 3) := by decide +kernel
theorem dX11_grind_26 : decode cX11_grind 26 = .ok (.astore_n 3, 1) := by decide +kernel
theorem dX11_grind_27 : decode cX11_grind 27 = .ok (.aload_n 3, 1) := by decide +kernel
theorem dX11_grind_28 : decode cX11_grind 28 = .ok (.getfield 121, 3) := by decide +kernel
theorem dX11_grind_31 : decode cX11_grind 31 = .ok (.ifCond .eq 8, 3) := by decide +kernel
theorem dX11_grind_34 : decode cX11_grind 34 = .ok (.bipush (-3), 2) := by decide +kernel
theorem dX11_grind_36 : decode cX11_grind 36 = .ok (.goto 8, 3) := by decide +kernel
theorem dX11_grind_39 : decode cX11_grind 39 = .ok (.aload_n 0, 1) := by decide +kernel
theorem dX11_grind_40 : decode cX11_grind 40 = .ok (.aload_n 3, 1) := by decide +kernel
theorem dX11_grind_41 : decode cX11_grind 41 = .ok (.invokevirtual 125, 3) := by decide +kernel
theorem dX11_grind_44 : decode cX11_grind 44 = .ok (.ireturn, 1) := by decide +kernel
theorem dX11_grind_45 : decode cX11_grind 45 = .ok (.bipush (-5), 2) := by decide +kernel
theorem dX11_grind_47 : decode cX11_grind 47 = .ok (.ireturn, 1) := by decide +kernel
set_option maxRecDepth 20000 in
theorem ggX11_dish_X11_isOutside : GoodIn wsX11_dish wsX11_isOutside := goodIn_r _ [5] (by decide +kernel) (by decide +kernel)
set_option maxRecDepth 20000 in
theorem gX11_dish_X11_isOutside : GoodIn wsX11_dish (va_wsS RX11 60 yX11_isOutside wsX11_isOutside) := goodIn_app (goodIn_of _ (by decide +kernel)) ggX11_dish_X11_isOutside
theorem dX11_dish_0 : decode cX11_dish 0 = .ok (.iload_n 1, 1) := by decide +kernel
theorem dX11_dish_1 : decode cX11_dish 1 = .ok (.iconst 2, 1) := by decide +kernel
theorem dX11_dish_2 : decode cX11_dish 2 = .ok (.bipush 100, 2) := by decide +kernel
theorem dX11_dish_4 : decode cX11_dish 4 = .ok (.invokestatic 60, 3) := by decide +kernel
theorem dX11_dish_7 : decode cX11_dish 7 = .ok (.ifCond .eq 6, 3) := by decide +kernel
theorem dX11_dish_10 : decode cX11_dish 10 = .ok (.bipush (-2), 2) := by decide +kernel
theorem dX11_dish_12 : decode cX11_dish 12 = .ok (.ireturn, 1) := by decide +kernel
theorem dX11_dish_13 : decode cX11_dish 13 = .ok (.aload_n 0, 1) := by decide +kernel
theorem dX11_dish_14 : decode cX11_dish 14 = .ok (.getfield 50, 3) := by decide +kernel
theorem dX11_dish_17 : decode cX11_dish 17 = .ok (.istore_n 2, 1) := by decide +kernel
theorem dX11_dish_18 : decode cX11_dish 18 = .ok (.aload_n 0, 1) := by decide +kernel
theorem dX11_dish_19 : decode cX11_dish 19 = .ok (.iload_n 1, 1) := by decide +kernel
theorem dX11_dish_20 : decode cX11_dish 20 = .ok (.putfield 50, 3) := by decide +kernel
theorem dX11_dish_23 : decode cX11_dish 23 = .ok (.iload_n 2, 1) := by decide +kernel
theorem dX11_dish_24 : decode cX11_dish 24 = .ok (.ireturn, 1) := by decide +kernel
set_option maxRecDepth 20000 in
theorem ggX11_price_X11_weekNow : GoodIn wsX11_price wsX11_weekNow := goodIn_r _ [6, 7, 22, 23, 24, 25, 26, 27, 28, 29, 30, 31, 32, 33] (by decide +kernel) (by decide +kernel)
set_option maxRecDepth 20000 in
theorem gX11_price_X11_weekNow : GoodIn wsX11_price (wsV RX11 68 RX11 yX11_weekNow wsX11_weekNow) := goodIn_app (goodIn_of _ (by decide +kernel)) ggX11_price_X11_weekNow
set_option maxRecDepth 20000 in
theorem ggX11_price_X11_isOutside : GoodIn wsX11_price wsX11_isOutside := goodIn_r _ [10] (by decide +kernel) (by decide +kernel)
set_option maxRecDepth 20000 in
theorem gX11_price_X11_isOutside : GoodIn wsX11_price (va_wsS RX11 60 yX11_isOutside wsX11_isOutside) := goodIn_app (goodIn_of _ (by decide +kernel)) ggX11_price_X11_isOutside
set_option maxRecDepth 20000 in
theorem ggX11_price_X7_priceOf : GoodIn wsX11_price wsX7_priceOf := goodIn_r _ [15, 16, 17, 18, 19, 20, 21, 34, 35] (by decide +kernel) (by decide +kernel)
set_option maxRecDepth 20000 in
theorem gX11_price_X7_priceOf : GoodIn wsX11_price (wsV RX11 129 RX7 yX7_priceOf wsX7_priceOf) := goodIn_app (goodIn_of _ (by decide +kernel)) ggX11_price_X7_priceOf
theorem dX11_price_0 : decode cX11_price 0 = .ok (.iload_n 1, 1) := by decide +kernel
theorem dX11_price_1 : decode cX11_price 1 = .ok (.iconst (-1), 1) := by decide +kernel
theorem dX11_price_2 : decode cX11_price 2 = .ok (.aload_n 0, 1) := by decide +kernel
theorem dX11_price_3 : decode cX11_price 3 = .ok (.invokevirtual 68, 3) := by decide +kernel
theorem dX11_price_6 : decode cX11_price 6 = .ok (.invokestatic 60, 3) := by decide +kernel
theorem dX11_price_9 : decode cX11_price 9 = .ok (.ifCond .eq 5, 3) := by decide +kernel
theorem dX11_price_12 : decode cX11_price 12 = .ok (.iconst (-1), 1) := by decide +kernel
theorem dX11_price_13 : decode cX11_price 13 = .ok (.ireturn, 1) := by decide +kernel
theorem dX11_price_14 : decode cX11_price 14 = .ok (.aload_n 0, 1) := by decide +kernel
theorem dX11_price_15 : decode cX11_price 15 = .ok (.getfield 19, 3) := by decide +kernel
theorem dX11_price_18 : decode cX11_price 18 = .ok (.iload_n 1, 1) := by decide +kernel
theorem dX11_price_19 : decode cX11_price 19 = .ok (.invokevirtual 129, 3) := by decide +kernel
theorem dX11_price_22 : decode cX11_price 22 = .ok (.ireturn, 1) := by decide +kernel
set_option maxRecDepth 20000 in
theorem ggX11_text_X11_isOutside : GoodIn wsX11_text wsX11_isOutside := goodIn_r _ [10] (by decide +kernel) (by decide +kernel)
set_option maxRecDepth 20000 in
theorem gX11_text_X11_isOutside : GoodIn wsX11_text (va_wsS RX11 60 yX11_isOutside wsX11_isOutside) := goodIn_app (goodIn_of _ (by decide +kernel)) ggX11_text_X11_isOutside
set_option maxRecDepth 20000 in
theorem ggX11_text_X5_isFull : GoodIn wsX11_text wsX5_isFull := goodIn_r _ [15, 16, 55, 56] (by decide +kernel) (by decide +kernel)
set_option maxRecDepth 20000 in
theorem gX11_text_X5_isFull : GoodIn wsX11_text (wsV RX11 133 RX5 yX5_isFull wsX5_isFull) := goodIn_app (goodIn_of _ (by decide +kernel)) ggX11_text_X5_isFull
set_option maxRecDepth 20000 in
theorem ggX11_text_X9_init : GoodIn wsX11_text wsX9_init := goodIn_r _ [19, 20, 21, 22, 23, 24, 25, 26, 27, 28, 29, 48, 49, 50, 51, 52, 53, 54] (by decide +kernel) (by decide +kernel)
set_option maxRecDepth 20000 in
theorem gX11_text_X9_init : GoodIn wsX11_text (wsX9_init) := ggX11_text_X9_init
set_option maxRecDepth 20000 in
theorem ggX11_text_X5_enact : GoodIn wsX11_text wsX5_enact := goodIn_r _ [33, 34, 16, 35, 12, 13, 14, 15, 55, 56] (by decide +kernel) (by decide +kernel)
set_option maxRecDepth 20000 in
theorem gX11_text_X5_enact : GoodIn wsX11_text (wsV RX11 140 RX5 yX5_enact wsX5_enact) := goodIn_app (goodIn_of _ (by decide +kernel)) ggX11_text_X5_enact
theorem dX11_text_0 : decode cX11_text 0 = .ok (.iload_n 1, 1) := by decide +kernel
theorem dX11_text_1 : decode cX11_text 1 = .ok (.iconst 0, 1) := by decide +kernel
theorem dX11_text_2 : decode cX11_text 2 = .ok (.sipush 199, 3) := by decide +kernel
theorem dX11_text_5 : decode cX11_text 5 = .ok (.invokestatic 60, 3) := by decide +kernel
theorem dX11_text_8 : decode cX11_text 8 = .ok (.ifCond .ne 13, 3) := by decide +kernel
theorem dX11_text_11 : decode cX11_text 11 = .ok (.iload 5, 2) := by decide +kernel
theorem dX11_text_13 : decode cX11_text 13 = .ok (.iconst 0, 1) := by decide +kernel
theorem dX11_text_14 : decode cX11_text 14 = .ok (.iconst 5, 1) := by decide +kernel
theorem dX11_text_15 : decode cX11_text 15 = .ok (.invokestatic 60, 3) := by decide +kernel
theorem dX11_text_18 : decode cX11_text 18 = .ok (.ifCond .eq 6, 3) := by decide +kernel
theorem dX11_text_21 : decode cX11_text 21 = .ok (.bipush (-2), 2) := by decide +kernel
theorem dX11_text_23 : decode cX11_text 23 = .ok (.ireturn, 1) := by decide +kernel
theorem dX11_text_24 : decode cX11_text 24 = .ok (.iload_n 2, 1) := by decide +kernel
theorem dX11_text_25 : decode cX11_text 25 = .ok (.bipush 10, 2) := by decide +kernel
theorem dX11_text_27 : decode cX11_text 27 = .ok (.sipush 300, 3) := by decide +kernel
theorem dX11_text_30 : decode cX11_text 30 = .ok (.invokestatic 60, 3) := by decide +kernel
theorem dX11_text_33 : decode cX11_text 33 = .ok (.ifCond .ne 28, 3) := by decide +kernel
theorem dX11_text_36 : decode cX11_text 36 = .ok (.iload_n 3, 1) := by decide +kernel
theorem dX11_text_37 : decode cX11_text 37 = .ok (.bipush 10, 2) := by decide +kernel
theorem dX11_text_39 : decode cX11_text 39 = .ok (.sipush 300, 3) := by decide +kernel
theorem dX11_text_42 : decode cX11_text 42 = .ok (.invokestatic 60, 3) := by decide +kernel
theorem dX11_text_45 : decode cX11_text 45 = .ok (.ifCond .ne 16, 3) := by decide +kernel
theorem dX11_text_48 : decode cX11_text 48 = .ok (.iload 4, 2) := by decide +kernel
theorem dX11_text_50 : decode cX11_text 50 = .ok (.bipush 10, 2) := by decide +kernel
theorem dX11_text_52 : decode cX11_text 52 = .ok (.sipush 300, 3) := by decide +kernel
theorem dX11_text_55 : decode cX11_text 55 = .ok (.invokestatic 60, 3) := by decide +kernel
theorem dX11_text_58 : decode cX11_text 58 = .ok (.ifCond .eq 6, 3) := by decide +kernel
theorem dX11_text_61 : decode cX11_text 61 = .ok (.bipush (-2), 2) := by decide +kernel
theorem dX11_text_63 : decode cX11_text 63 = .ok (.ireturn, 1) := by decide +kernel
theorem dX11_text_64 : decode cX11_text 64 = .ok (.aload_n 0, 1) := by decide +kernel
theorem dX11_text_65 : decode cX11_text 65 = .ok (.getfield 26, 3) := by decide +kernel
theorem dX11_text_68 : decode cX11_text 68 = .ok (.invokevirtual 133, 3) := by decide +kernel
theorem dX11_text_71 : decode cX11_text 71 = .ok (.ifCond .eq 6, 3) := by decide +kernel
theorem dX11_text_74 : decode cX11_text 74 = .ok (.bipush (-4), 2) := by decide +kernel
theorem dX11_text_76 : decode cX11_text 76 = .ok (.ireturn, 1) := by decide +kernel
theorem dX11_text_77 : decode cX11_text 77 = .ok (.new 134, 3) := by decide +kernel
theorem dX11_text_80 : decode cX11_text 80 = .ok (.dup, 1) := by decide +kernel
theorem dX11_text_81 : decode cX11_text 81 = .ok (.aload_n 0, 1) := by decide +kernel
theorem dX11_text_82 : decode cX11_text 82 = .ok (.getfield 26, 3) := by decide +kernel
theorem dX11_text_85 : decode cX11_text 85 = .ok (.getfield 136, 3) := by decide +kernel
theorem dX11_text_88 : decode cX11_text 88 = .ok (.iload_n 1, 1) := by decide +kernel
theorem dX11_text_89 : decode cX11_text 89 = .ok (.iload_n 2, 1) := by decide +kernel
theorem dX11_text_90 : decode cX11_text 90 = .ok (.iload_n 3, 1) := by decide +kernel
theorem dX11_text_91 : decode cX11_text 91 = .ok (.iload 4, 2) := by decide +kernel
theorem dX11_text_93 : decode cX11_text 93 = .ok (.iload 5, 2) := by decide +kernel
theorem dX11_text_95 : decode cX11_text 95 = .ok (.invokespecial 137, 3) := by decide +kernel
theorem dX11_text_98 : decode cX11_text 98 = .ok (.astore 6, 2) := by decide +kernel
theorem dX11_text_100 : decode cX11_text 100 = .ok (.aload_n 0, 1) := by decide +kernel
theorem dX11_text_101 : decode cX11_text 101 = .ok (.getfield 26, 3) := by decide +kernel
theorem dX11_text_104 : decode cX11_text 104 = .ok (.aload 6, 2) := by decide +kernel
theorem dX11_text_106 : decode cX11_text 106 = .ok (.invokevirtual 140, 3) := by decide +kernel
theorem dX11_text_109 : decode cX11_text 109 = .ok (.aload 6, 2) := by decide +kernel
theorem dX11_text_111 : decode cX11_text 111 = .ok (.getfield 144, 3) := by decide +kernel
theorem dX11_text_114 : decode cX11_text 114 = .ok (.ireturn, 1) := by decide +kernel
set_option maxRecDepth 20000 in
theorem ggX11_step_X5_textAt : GoodIn wsX11_step wsX5_textAt := goodIn_r _ [7, 8, 9, 46, 47] (by decide +kernel) (by decide +kernel)
set_option maxRecDepth 20000 in
theorem gX11_step_X5_textAt : GoodIn wsX11_step (wsV RX11 145 RX5 yX5_textAt wsX5_textAt) := goodIn_app (goodIn_of _ (by decide +kernel)) ggX11_step_X5_textAt
set_option maxRecDepth 20000 in
theorem ggX11_step_X11_isOutside : GoodIn wsX11_step wsX11_isOutside := goodIn_r _ [13] (by decide +kernel) (by decide +kernel)
set_option maxRecDepth 20000 in
theorem gX11_step_X11_isOutside : GoodIn wsX11_step (va_wsS RX11 60 yX11_isOutside wsX11_isOutside) := goodIn_app (goodIn_of _ (by decide +kernel)) ggX11_step_X11_isOutside
set_option maxRecDepth 20000 in
theorem ggX11_step_X9_isFull : GoodIn wsX11_step wsX9_isFull := goodIn_r _ [18, 19, 39, 40, 41, 42, 43, 44, 45] (by decide +kernel) (by decide +kernel)
set_option maxRecDepth 20000 in
theorem gX11_step_X9_isFull : GoodIn wsX11_step (wsV RX11 149 RX9 yX9_isFull wsX9_isFull) := goodIn_app (goodIn_of _ (by decide +kernel)) ggX11_step_X9_isFull
set_option maxRecDepth 20000 in
theorem ggX11_step_X9_addStep : GoodIn wsX11_step wsX9_addStep := goodIn_r _ [23, 24, 19, 25, 26, 15, 16, 17, 18, 39, 40, 41, 42, 43, 44, 45] (by decide +kernel) (by decide +kernel)
set_option maxRecDepth 20000 in
theorem gX11_step_X9_addStep : GoodIn wsX11_step (wsV RX11 150 RX9 yX9_addStep wsX9_addStep) := goodIn_app (goodIn_of _ (by decide +kernel)) ggX11_step_X9_addStep
theorem dX11_step_0 : decode cX11_step 0 = .ok (.aload_n 0, 1) := by decide +kernel
theorem dX11_step_1 : decode cX11_step 1 = .ok (.getfield 26, 3) := by decide +kernel
theorem dX11_step_4 : decode cX11_step 4 = .ok (.iload_n 1, 1) := by decide +kernel
theorem dX11_step_5 : decode cX11_step 5 = .ok (.invokevirtual 145, 3) := by decide +kernel
theorem dX11_step_8 : decode cX11_step 8 = .ok (.astore 4, 2) := by decide +kernel
theorem dX11_step_10 : decode cX11_step 10 = .ok (.aload 4, 2) := by decide +kernel
theorem dX11_step_12 : decode cX11_step 12 = .ok (.ifnonnull 5, 3) := by decide +kernel
theorem dX11_step_15 : decode cX11_step 15 = .ok (.iconst (-1), 1) := by decide +kernel
theorem dX11_step_16 : decode cX11_step 16 = .ok (.ireturn, 1) := by decide +kernel
theorem dX11_step_17 : decode cX11_step 17 = .ok (.iload_n 2, 1) := by decide +kernel
theorem dX11_step_18 : decode cX11_step 18 = .ok (.iconst 0, 1) := by decide +kernel
theorem dX11_step_19 : decode cX11_step 19 = .ok (.sipush 1000, 3) := by decide +kernel
theorem dX11_step_22 : decode cX11_step 22 = .ok (.invokestatic 60, 3) := by decide +kernel
theorem dX11_step_25 : decode cX11_step 25 = .ok (.ifCond .ne 14, 3) := by decide +kernel
theorem dX11_step_28 : decode cX11_step 28 = .ok (.iload_n 3, 1) := by decide +kernel
theorem dX11_step_29 : decode cX11_step 29 = .ok (.iconst 1, 1) := by decide +kernel
