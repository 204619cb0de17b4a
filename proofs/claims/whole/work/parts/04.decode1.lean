theorem dX11_step_30 : decode cX11_step 30 = .ok (.sipush 1000, 3) := by decide +kernel
theorem dX11_step_33 : decode cX11_step 33 = .ok (.invokestatic 60, 3) := by decide +kernel
theorem dX11_step_36 : decode cX11_step 36 = .ok (.ifCond .eq 6, 3) := by decide +kernel
theorem dX11_step_39 : decode cX11_step 39 = .ok (.bipush (-2), 2) := by decide +kernel
theorem dX11_step_41 : decode cX11_step 41 = .ok (.ireturn, 1) := by decide +kernel
theorem dX11_step_42 : decode cX11_step 42 = .ok (.aload 4, 2) := by decide +kernel
theorem dX11_step_44 : decode cX11_step 44 = .ok (.invokevirtual 149, 3) := by decide +kernel
theorem dX11_step_47 : decode cX11_step 47 = .ok (.ifCond .eq 6, 3) := by decide +kernel
theorem dX11_step_50 : decode cX11_step 50 = .ok (.bipush (-4), 2) := by decide +kernel
theorem dX11_step_52 : decode cX11_step 52 = .ok (.ireturn, 1) := by decide +kernel
theorem dX11_step_53 : decode cX11_step 53 = .ok (.aload 4, 2) := by decide +kernel
theorem dX11_step_55 : decode cX11_step 55 = .ok (.iload_n 2, 1) := by decide +kernel
theorem dX11_step_56 : decode cX11_step 56 = .ok (.iload_n 3, 1) := by decide +kernel
theorem dX11_step_57 : decode cX11_step 57 = .ok (.invokevirtual 150, 3) := by decide +kernel
theorem dX11_step_60 : decode cX11_step 60 = .ok (.aload 4, 2) := by decide +kernel
theorem dX11_step_62 : decode cX11_step 62 = .ok (.getfield 154, 3) := by decide +kernel
theorem dX11_step_65 : decode cX11_step 65 = .ok (.ireturn, 1) := by decide +kernel
set_option maxRecDepth 20000 in
theorem ggX11_inForce_X11_isOutside : GoodIn wsX11_inForce wsX11_isOutside := goodIn_r _ [6] (by decide +kernel) (by decide +kernel)
set_option maxRecDepth 20000 in
theorem gX11_inForce_X11_isOutside : GoodIn wsX11_inForce (va_wsS RX11 60 yX11_isOutside wsX11_isOutside) := goodIn_app (goodIn_of _ (by decide +kernel)) ggX11_inForce_X11_isOutside
set_option maxRecDepth 20000 in
theorem ggX11_inForce_X5_ruling : GoodIn wsX11_inForce wsX5_ruling := goodIn_r _ [11, 12, 13, 14, 34, 35, 27, 28, 29, 30, 31, 32, 33] (by decide +kernel) (by decide +kernel)
set_option maxRecDepth 20000 in
theorem gX11_inForce_X5_ruling : GoodIn wsX11_inForce (wsV RX11 157 RX5 yX5_ruling wsX5_ruling) := goodIn_app (goodIn_of _ (by decide +kernel)) ggX11_inForce_X5_ruling
theorem dX11_inForce_0 : decode cX11_inForce 0 = .ok (.iload_n 1, 1) := by decide +kernel
theorem dX11_inForce_1 : decode cX11_inForce 1 = .ok (.iconst 0, 1) := by decide +kernel
theorem dX11_inForce_2 : decode cX11_inForce 2 = .ok (.sipush 199, 3) := by decide +kernel
theorem dX11_inForce_5 : decode cX11_inForce 5 = .ok (.invokestatic 60, 3) := by decide +kernel
theorem dX11_inForce_8 : decode cX11_inForce 8 = .ok (.ifCond .eq 5, 3) := by decide +kernel
theorem dX11_inForce_11 : decode cX11_inForce 11 = .ok (.iconst (-1), 1) := by decide +kernel
theorem dX11_inForce_12 : decode cX11_inForce 12 = .ok (.ireturn, 1) := by decide +kernel
theorem dX11_inForce_13 : decode cX11_inForce 13 = .ok (.aload_n 0, 1) := by decide +kernel
theorem dX11_inForce_14 : decode cX11_inForce 14 = .ok (.getfield 26, 3) := by decide +kernel
theorem dX11_inForce_17 : decode cX11_inForce 17 = .ok (.iload_n 1, 1) := by decide +kernel
theorem dX11_inForce_18 : decode cX11_inForce 18 = .ok (.invokevirtual 157, 3) := by decide +kernel
theorem dX11_inForce_21 : decode cX11_inForce 21 = .ok (.astore_n 2, 1) := by decide +kernel
theorem dX11_inForce_22 : decode cX11_inForce 22 = .ok (.aload_n 2, 1) := by decide +kernel
theorem dX11_inForce_23 : decode cX11_inForce 23 = .ok (.ifnonnull 8, 3) := by decide +kernel
theorem dX11_inForce_26 : decode cX11_inForce 26 = .ok (.bipush (-6), 2) := by decide +kernel
theorem dX11_inForce_28 : decode cX11_inForce 28 = .ok (.goto 7, 3) := by decide +kernel
theorem dX11_inForce_31 : decode cX11_inForce 31 = .ok (.aload_n 2, 1) := by decide +kernel
theorem dX11_inForce_32 : decode cX11_inForce 32 = .ok (.getfield 144, 3) := by decide +kernel
theorem dX11_inForce_35 : decode cX11_inForce 35 = .ok (.ireturn, 1) := by decide +kernel
set_option maxRecDepth 20000 in
theorem ggX11_due_X11_weekNow : GoodIn wsX11_due wsX11_weekNow := goodIn_r _ [6, 7, 48, 49, 50, 51, 52, 53, 54, 55, 56, 57, 58, 59] (by decide +kernel) (by decide +kernel)
set_option maxRecDepth 20000 in
theorem gX11_due_X11_weekNow : GoodIn wsX11_due (wsV RX11 68 RX11 yX11_weekNow wsX11_weekNow) := goodIn_app (goodIn_of _ (by decide +kernel)) ggX11_due_X11_weekNow
set_option maxRecDepth 20000 in
theorem ggX11_due_X11_isOutside : GoodIn wsX11_due wsX11_isOutside := goodIn_r _ [10] (by decide +kernel) (by decide +kernel)
set_option maxRecDepth 20000 in
theorem gX11_due_X11_isOutside : GoodIn wsX11_due (va_wsS RX11 60 yX11_isOutside wsX11_isOutside) := goodIn_app (goodIn_of _ (by decide +kernel)) ggX11_due_X11_isOutside
set_option maxRecDepth 20000 in
theorem ggX11_due_X5_ruling : GoodIn wsX11_due wsX5_ruling := goodIn_r _ [15, 16, 17, 18, 60, 61, 62, 63, 64, 65, 66, 67, 68] (by decide +kernel) (by decide +kernel)
set_option maxRecDepth 20000 in
theorem gX11_due_X5_ruling : GoodIn wsX11_due (wsV RX11 157 RX5 yX5_ruling wsX5_ruling) := goodIn_app (goodIn_of _ (by decide +kernel)) ggX11_due_X5_ruling
set_option maxRecDepth 20000 in
theorem ggX11_due_X11_dueBy : GoodIn wsX11_due wsX11_dueBy := goodIn_r _ [22, 23, 24, 25, 26, 27, 28, 29, 30, 31, 32, 33, 34, 35, 36, 37, 38, 39, 40, 41, 42, 43, 44, 45, 46, 47, 48, 49, 50, 51, 52, 53, 54, 55, 56, 57, 58, 59, 69, 70, 62, 63, 64, 65, 66, 67, 68] (by decide +kernel) (by decide +kernel)
set_option maxRecDepth 20000 in
theorem gX11_due_X11_dueBy : GoodIn wsX11_due (wsV RX11 160 RX11 yX11_dueBy wsX11_dueBy) := goodIn_app (goodIn_of _ (by decide +kernel)) ggX11_due_X11_dueBy
theorem dX11_due_0 : decode cX11_due 0 = .ok (.iload_n 2, 1) := by decide +kernel
theorem dX11_due_1 : decode cX11_due 1 = .ok (.iconst 0, 1) := by decide +kernel
theorem dX11_due_2 : decode cX11_due 2 = .ok (.aload_n 0, 1) := by decide +kernel
theorem dX11_due_3 : decode cX11_due 3 = .ok (.invokevirtual 68, 3) := by decide +kernel
theorem dX11_due_6 : decode cX11_due 6 = .ok (.invokestatic 60, 3) := by decide +kernel
theorem dX11_due_9 : decode cX11_due 9 = .ok (.ifCond .eq 5, 3) := by decide +kernel
theorem dX11_due_12 : decode cX11_due 12 = .ok (.iconst (-1), 1) := by decide +kernel
theorem dX11_due_13 : decode cX11_due 13 = .ok (.ireturn, 1) := by decide +kernel
theorem dX11_due_14 : decode cX11_due 14 = .ok (.iload_n 1, 1) := by decide +kernel
theorem dX11_due_15 : decode cX11_due 15 = .ok (.iconst 0, 1) := by decide +kernel
theorem dX11_due_16 : decode cX11_due 16 = .ok (.iconst 2, 1) := by decide +kernel
theorem dX11_due_17 : decode cX11_due 17 = .ok (.invokestatic 60, 3) := by decide +kernel
theorem dX11_due_20 : decode cX11_due 20 = .ok (.ifCond .eq 6, 3) := by decide +kernel
theorem dX11_due_23 : decode cX11_due 23 = .ok (.bipush (-2), 2) := by decide +kernel
theorem dX11_due_25 : decode cX11_due 25 = .ok (.ireturn, 1) := by decide +kernel
theorem dX11_due_26 : decode cX11_due 26 = .ok (.aload_n 0, 1) := by decide +kernel
theorem dX11_due_27 : decode cX11_due 27 = .ok (.aload_n 0, 1) := by decide +kernel
theorem dX11_due_28 : decode cX11_due 28 = .ok (.getfield 26, 3) := by decide +kernel
theorem dX11_due_31 : decode cX11_due 31 = .ok (.iload_n 2, 1) := by decide +kernel
theorem dX11_due_32 : decode cX11_due 32 = .ok (.invokevirtual 157, 3) := by decide +kernel
theorem dX11_due_35 : decode cX11_due 35 = .ok (.iload_n 1, 1) := by decide +kernel
theorem dX11_due_36 : decode cX11_due 36 = .ok (.iload_n 2, 1) := by decide +kernel
theorem dX11_due_37 : decode cX11_due 37 = .ok (.invokevirtual 160, 3) := by decide +kernel
theorem dX11_due_40 : decode cX11_due 40 = .ok (.ireturn, 1) := by decide +kernel
set_option maxRecDepth 20000 in
theorem ggX11_bake_X11_bakerAt : GoodIn wsX11_bake wsX11_bakerAt := goodIn_r _ [17, 18, 19, 92, 93, 94, 95, 96, 97, 98, 99, 100, 101, 102, 103] (by decide +kernel) (by decide +kernel)
set_option maxRecDepth 20000 in
theorem gX11_bake_X11_bakerAt : GoodIn wsX11_bake (wsV RX11 86 RX11 yX11_bakerAt wsX11_bakerAt) := goodIn_app (goodIn_of _ (by decide +kernel)) ggX11_bake_X11_bakerAt
set_option maxRecDepth 20000 in
theorem ggX11_bake_X11_isOutside : GoodIn wsX11_bake wsX11_isOutside := goodIn_r _ [22] (by decide +kernel) (by decide +kernel)
set_option maxRecDepth 20000 in
theorem gX11_bake_X11_isOutside : GoodIn wsX11_bake (va_wsS RX11 60 yX11_isOutside wsX11_isOutside) := goodIn_app (goodIn_of _ (by decide +kernel)) ggX11_bake_X11_isOutside
set_option maxRecDepth 20000 in
theorem ggX11_bake_X11_weekNow : GoodIn wsX11_bake wsX11_weekNow := goodIn_r _ [26, 8, 92, 93, 94, 95, 96, 97, 98, 99, 100, 101, 102, 103] (by decide +kernel) (by decide +kernel)
set_option maxRecDepth 20000 in
theorem gX11_bake_X11_weekNow : GoodIn wsX11_bake (wsV RX11 68 RX11 yX11_weekNow wsX11_weekNow) := goodIn_app (goodIn_of _ (by decide +kernel)) ggX11_bake_X11_weekNow
set_option maxRecDepth 20000 in
theorem ggX11_bake_X2_isFull : GoodIn wsX11_bake wsX2_isFull := goodIn_r _ [31, 32, 113, 114, 115, 116, 117, 118, 119] (by decide +kernel) (by decide +kernel)
set_option maxRecDepth 20000 in
theorem gX11_bake_X2_isFull : GoodIn wsX11_bake (wsV RX11 91 RX2 yX2_isFull wsX2_isFull) := goodIn_app (goodIn_of _ (by decide +kernel)) ggX11_bake_X2_isFull
set_option maxRecDepth 20000 in
theorem ggX11_bake_X1_init : GoodIn wsX11_bake wsX1_init := goodIn_r _ [35, 36, 37, 38, 39, 40, 41, 42, 43, 44, 45, 46, 47, 48, 49, 104, 105, 106, 107, 108, 109, 110, 111, 112, 120, 121, 122, 123, 124, 125, 126, 127, 128, 129, 130, 131, 132, 133, 134, 135, 136, 137] (by decide +kernel) (by decide +kernel)
set_option maxRecDepth 20000 in
theorem gX11_bake_X1_init : GoodIn wsX11_bake (wsX1_init) := ggX11_bake_X1_init
set_option maxRecDepth 20000 in
theorem ggX11_bake_X2_enter : GoodIn wsX11_bake wsX2_enter := goodIn_r _ [53, 54, 32, 55, 28, 29, 30, 31, 113, 114, 115, 116, 117, 118, 119] (by decide +kernel) (by decide +kernel)
set_option maxRecDepth 20000 in
theorem gX11_bake_X2_enter : GoodIn wsX11_bake (wsV RX11 103 RX2 yX2_enter wsX2_enter) := goodIn_app (goodIn_of _ (by decide +kernel)) ggX11_bake_X2_enter
set_option maxRecDepth 20000 in
theorem ggX11_bake_X2_takeFlour : GoodIn wsX11_bake wsX2_takeFlour := goodIn_r _ [59, 60, 61, 62, 63, 64, 65, 66, 67, 68, 69, 70, 71, 72, 73, 74, 75, 76, 77, 30, 78, 79, 80, 81, 82, 83, 104, 105, 106, 107, 108, 109, 110, 111, 112, 113, 114, 115, 116, 117, 118, 119, 120, 121, 122, 123, 124, 125, 126, 127, 128, 129, 130, 131, 132, 133, 134, 135, 136, 137] (by decide +kernel) (by decide +kernel)
set_option maxRecDepth 20000 in
theorem gX11_bake_X2_takeFlour : GoodIn wsX11_bake (wsV RX11 173 RX2 yX2_takeFlour wsX2_takeFlour) := goodIn_app (goodIn_of _ (by decide +kernel)) ggX11_bake_X2_takeFlour
theorem dX11_bake_0 : decode cX11_bake 0 = .ok (.aload_n 0, 1) := by decide +kernel
theorem dX11_bake_1 : decode cX11_bake 1 = .ok (.iload_n 1, 1) := by decide +kernel
theorem dX11_bake_2 : decode cX11_bake 2 = .ok (.invokevirtual 86, 3) := by decide +kernel
theorem dX11_bake_5 : decode cX11_bake 5 = .ok (.astore 5, 2) := by decide +kernel
theorem dX11_bake_7 : decode cX11_bake 7 = .ok (.aload 5, 2) := by decide +kernel
theorem dX11_bake_9 : decode cX11_bake 9 = .ok (.ifnonnull 5, 3) := by decide +kernel
theorem dX11_bake_12 : decode cX11_bake 12 = .ok (.iconst (-1), 1) := by decide +kernel
theorem dX11_bake_13 : decode cX11_bake 13 = .ok (.ireturn, 1) := by decide +kernel
theorem dX11_bake_14 : decode cX11_bake 14 = .ok (.iload_n 2, 1) := by decide +kernel
theorem dX11_bake_15 : decode cX11_bake 15 = .ok (.iconst 0, 1) := by decide +kernel
theorem dX11_bake_16 : decode cX11_bake 16 = .ok (.iconst 2, 1) := by decide +kernel
theorem dX11_bake_17 : decode cX11_bake 17 = .ok (.invokestatic 60, 3) := by decide +kernel
theorem dX11_bake_20 : decode cX11_bake 20 = .ok (.ifCond .ne 26, 3) := by decide +kernel
theorem dX11_bake_23 : decode cX11_bake 23 = .ok (.iload_n 3, 1) := by decide +kernel
theorem dX11_bake_24 : decode cX11_bake 24 = .ok (.iconst 1, 1) := by decide +kernel
theorem dX11_bake_25 : decode cX11_bake 25 = .ok (.sipush 500, 3) := by decide +kernel
theorem dX11_bake_28 : decode cX11_bake 28 = .ok (.invokestatic 60, 3) := by decide +kernel
theorem dX11_bake_31 : decode cX11_bake 31 = .ok (.ifCond .ne 15, 3) := by decide +kernel
theorem dX11_bake_34 : decode cX11_bake 34 = .ok (.iload 4, 2) := by decide +kernel
theorem dX11_bake_36 : decode cX11_bake 36 = .ok (.iconst 1, 1) := by decide +kernel
theorem dX11_bake_37 : decode cX11_bake 37 = .ok (.sipush 2000, 3) := by decide +kernel
theorem dX11_bake_40 : decode cX11_bake 40 = .ok (.invokestatic 60, 3) := by decide +kernel
theorem dX11_bake_43 : decode cX11_bake 43 = .ok (.ifCond .eq 6, 3) := by decide +kernel
theorem dX11_bake_46 : decode cX11_bake 46 = .ok (.bipush (-2), 2) := by decide +kernel
theorem dX11_bake_48 : decode cX11_bake 48 = .ok (.ireturn, 1) := by decide +kernel
theorem dX11_bake_49 : decode cX11_bake 49 = .ok (.aload_n 0, 1) := by decide +kernel
theorem dX11_bake_50 : decode cX11_bake 50 = .ok (.invokevirtual 68, 3) := by decide +kernel
theorem dX11_bake_53 : decode cX11_bake 53 = .ok (.aload 5, 2) := by decide +kernel
theorem dX11_bake_55 : decode cX11_bake 55 = .ok (.getfield 164, 3) := by decide +kernel
theorem dX11_bake_58 : decode cX11_bake 58 = .ok (.if_icmp .ge 6, 3) := by decide +kernel
theorem dX11_bake_61 : decode cX11_bake 61 = .ok (.bipush (-3), 2) := by decide +kernel
theorem dX11_bake_63 : decode cX11_bake 63 = .ok (.ireturn, 1) := by decide +kernel
theorem dX11_bake_64 : decode cX11_bake 64 = .ok (.aload_n 0, 1) := by decide +kernel
theorem dX11_bake_65 : decode cX11_bake 65 = .ok (.getfield 10, 3) := by decide +kernel
theorem dX11_bake_68 : decode cX11_bake 68 = .ok (.invokevirtual 91, 3) := by decide +kernel
theorem dX11_bake_71 : decode cX11_bake 71 = .ok (.ifCond .eq 6, 3) := by decide +kernel
theorem dX11_bake_74 : decode cX11_bake 74 = .ok (.bipush (-4), 2) := by decide +kernel
theorem dX11_bake_76 : decode cX11_bake 76 = .ok (.ireturn, 1) := by decide +kernel
theorem dX11_bake_77 : decode cX11_bake 77 = .ok (.aload 5, 2) := by decide +kernel
theorem dX11_bake_79 : decode cX11_bake 79 = .ok (.getfield 167, 3) := by decide +kernel
theorem dX11_bake_82 : decode cX11_bake 82 = .ok (.iload_n 3, 1) := by decide +kernel
theorem dX11_bake_83 : decode cX11_bake 83 = .ok (.iload 4, 2) := by decide +kernel
theorem dX11_bake_85 : decode cX11_bake 85 = .ok (.imul, 1) := by decide +kernel
theorem dX11_bake_86 : decode cX11_bake 86 = .ok (.if_icmp .ge 6, 3) := by decide +kernel
theorem dX11_bake_89 : decode cX11_bake 89 = .ok (.bipush (-5), 2) := by decide +kernel
theorem dX11_bake_91 : decode cX11_bake 91 = .ok (.ireturn, 1) := by decide +kernel
theorem dX11_bake_92 : decode cX11_bake 92 = .ok (.new 170, 3) := by decide +kernel
theorem dX11_bake_95 : decode cX11_bake 95 = .ok (.dup, 1) := by decide +kernel
theorem dX11_bake_96 : decode cX11_bake 96 = .ok (.aload_n 0, 1) := by decide +kernel
theorem dX11_bake_97 : decode cX11_bake 97 = .ok (.getfield 10, 3) := by decide +kernel
theorem dX11_bake_100 : decode cX11_bake 100 = .ok (.getfield 97, 3) := by decide +kernel
theorem dX11_bake_103 : decode cX11_bake 103 = .ok (.aload_n 0, 1) := by decide +kernel
theorem dX11_bake_104 : decode cX11_bake 104 = .ok (.getfield 64, 3) := by decide +kernel
theorem dX11_bake_107 : decode cX11_bake 107 = .ok (.iload_n 1, 1) := by decide +kernel
theorem dX11_bake_108 : decode cX11_bake 108 = .ok (.iload_n 2, 1) := by decide +kernel
theorem dX11_bake_109 : decode cX11_bake 109 = .ok (.iload_n 3, 1) := by decide +kernel
theorem dX11_bake_110 : decode cX11_bake 110 = .ok (.iload 4, 2) := by decide +kernel
theorem dX11_bake_112 : decode cX11_bake 112 = .ok (.invokespecial 172, 3) := by decide +kernel
theorem dX11_bake_115 : decode cX11_bake 115 = .ok (.astore 6, 2) := by decide +kernel
theorem dX11_bake_117 : decode cX11_bake 117 = .ok (.aload_n 0, 1) := by decide +kernel
theorem dX11_bake_118 : decode cX11_bake 118 = .ok (.getfield 10, 3) := by decide +kernel
theorem dX11_bake_121 : decode cX11_bake 121 = .ok (.aload 6, 2) := by decide +kernel
theorem dX11_bake_123 : decode cX11_bake 123 = .ok (.invokevirtual 103, 3) := by decide +kernel
theorem dX11_bake_126 : decode cX11_bake 126 = .ok (.aload_n 0, 1) := by decide +kernel
theorem dX11_bake_127 : decode cX11_bake 127 = .ok (.getfield 10, 3) := by decide +kernel
theorem dX11_bake_130 : decode cX11_bake 130 = .ok (.aload 6, 2) := by decide +kernel
theorem dX11_bake_132 : decode cX11_bake 132 = .ok (.invokevirtual 173, 3) := by decide +kernel
theorem dX11_bake_135 : decode cX11_bake 135 = .ok (.aload 5, 2) := by decide +kernel
theorem dX11_bake_137 : decode cX11_bake 137 = .ok (.dup, 1) := by decide +kernel
theorem dX11_bake_138 : decode cX11_bake 138 = .ok (.getfield 167, 3) := by decide +kernel
theorem dX11_bake_141 : decode cX11_bake 141 = .ok (.iload_n 3, 1) := by decide +kernel
theorem dX11_bake_142 : decode cX11_bake 142 = .ok (.iload 4, 2) := by decide +kernel
theorem dX11_bake_144 : decode cX11_bake 144 = .ok (.imul, 1) := by decide +kernel
theorem dX11_bake_145 : decode cX11_bake 145 = .ok (.isub, 1) := by decide +kernel
theorem dX11_bake_146 : decode cX11_bake 146 = .ok (.putfield 167, 3) := by decide +kernel
theorem dX11_bake_149 : decode cX11_bake 149 = .ok (.aload 5, 2) := by decide +kernel
theorem dX11_bake_151 : decode cX11_bake 151 = .ok (.dup, 1) := by decide +kernel
theorem dX11_bake_152 : decode cX11_bake 152 = .ok (.getfield 177, 3) := by decide +kernel
theorem dX11_bake_155 : decode cX11_bake 155 = .ok (.iconst 1, 1) := by decide +kernel
theorem dX11_bake_156 : decode cX11_bake 156 = .ok (.iadd, 1) := by decide +kernel
theorem dX11_bake_157 : decode cX11_bake 157 = .ok (.putfield 177, 3) := by decide +kernel
theorem dX11_bake_160 : decode cX11_bake 160 = .ok (.aload 5, 2) := by decide +kernel
theorem dX11_bake_162 : decode cX11_bake 162 = .ok (.aload 6, 2) := by decide +kernel
theorem dX11_bake_164 : decode cX11_bake 164 = .ok (.putfield 180, 3) := by decide +kernel
theorem dX11_bake_167 : decode cX11_bake 167 = .ok (.aload 6, 2) := by decide +kernel
theorem dX11_bake_169 : decode cX11_bake 169 = .ok (.getfield 184, 3) := by decide +kernel
theorem dX11_bake_172 : decode cX11_bake 172 = .ok (.ireturn, 1) := by decide +kernel
set_option maxRecDepth 20000 in
theorem ggX11_search_X2_isFull : GoodIn wsX11_search wsX2_isFull := goodIn_r _ [17, 18, 169, 170, 171, 172, 173, 174, 175] (by decide +kernel) (by decide +kernel)
set_option maxRecDepth 20000 in
theorem gX11_search_X2_isFull : GoodIn wsX11_search (wsV RX11 91 RX2 yX2_isFull wsX2_isFull) := goodIn_app (goodIn_of _ (by decide +kernel)) ggX11_search_X2_isFull
set_option maxRecDepth 20000 in
theorem ggX11_search_X10_upNext : GoodIn wsX11_search wsX10_upNext := goodIn_r _ [23, 24, 25, 26, 27, 28, 29, 30, 31, 32, 33, 22, 34, 35, 36, 37, 38, 201, 202, 203, 204] (by decide +kernel) (by decide +kernel)
set_option maxRecDepth 20000 in
theorem gX11_search_X10_upNext : GoodIn wsX11_search (wsV RX11 185 RX10 yX10_upNext wsX10_upNext) := goodIn_app (goodIn_of _ (by decide +kernel)) ggX11_search_X10_upNext
set_option maxRecDepth 20000 in
theorem ggX11_search_X11_bakerAt : GoodIn wsX11_search wsX11_bakerAt := goodIn_r _ [43, 1, 44, 147, 148, 149, 150, 151, 152, 153, 154, 155, 156, 157, 158] (by decide +kernel) (by decide +kernel)
set_option maxRecDepth 20000 in
theorem gX11_search_X11_bakerAt : GoodIn wsX11_search (wsV RX11 86 RX11 yX11_bakerAt wsX11_bakerAt) := goodIn_app (goodIn_of _ (by decide +kernel)) ggX11_search_X11_bakerAt
set_option maxRecDepth 20000 in
theorem ggX11_search_X10_moveOn : GoodIn wsX11_search wsX10_moveOn := goodIn_r _ [48, 24, 201, 202, 203, 204] (by decide +kernel) (by decide +kernel)
set_option maxRecDepth 20000 in
theorem gX11_search_X10_moveOn : GoodIn wsX11_search (wsV RX11 188 RX10 yX10_moveOn wsX10_moveOn) := goodIn_app (goodIn_of _ (by decide +kernel)) ggX11_search_X10_moveOn
set_option maxRecDepth 20000 in
theorem ggX11_search_X8_init : GoodIn wsX11_search wsX8_init := goodIn_r _ [51, 52, 53, 54, 55, 56, 57, 58, 59, 60, 61, 62, 63, 159, 160, 161, 162, 163, 164, 165, 166, 167, 168, 184, 185, 186, 187, 188, 189, 190, 191, 192, 193, 194, 195, 196, 197, 198, 199, 200] (by decide +kernel) (by decide +kernel)
set_option maxRecDepth 20000 in
theorem gX11_search_X8_init : GoodIn wsX11_search (wsX8_init) := ggX11_search_X8_init
set_option maxRecDepth 20000 in
theorem ggX11_search_X2_enter : GoodIn wsX11_search wsX2_enter := goodIn_r _ [67, 68, 18, 69, 14, 15, 16, 17, 169, 170, 171, 172, 173, 174, 175] (by decide +kernel) (by decide +kernel)
set_option maxRecDepth 20000 in
theorem gX11_search_X2_enter : GoodIn wsX11_search (wsV RX11 103 RX2 yX2_enter wsX2_enter) := goodIn_app (goodIn_of _ (by decide +kernel)) ggX11_search_X2_enter
set_option maxRecDepth 20000 in
theorem ggX11_search_X11_weighLatest : GoodIn wsX11_search wsX11_weighLatest := goodIn_r _ [73, 74, 75, 76, 77, 78, 79, 8, 80, 81, 82, 83, 84, 85, 86, 87, 10, 88, 89, 90, 91, 55, 92, 62, 93, 94, 95, 96, 97, 98, 99, 100, 101, 102, 42, 103, 104, 105, 28, 106, 107, 108, 109, 110, 111, 112, 113, 114, 115, 116, 117, 27, 29, 118, 119, 120, 121, 122, 123, 124, 125, 126, 127, 128, 129, 130, 131, 132, 176, 177, 178, 179, 180, 181, 182, 183, 147, 148, 149, 150, 151, 152, 153, 154, 155, 156, 157, 158, 205, 206, 207, 208, 209, 210, 211, 184, 185, 186, 187, 188, 189, 190, 191, 192, 193, 194, 195, 196, 197, 198, 199, 200, 159, 160, 161, 162, 163, 164, 165, 166, 167, 168, 212, 213, 214, 215] (by decide +kernel) (by decide +kernel)
set_option maxRecDepth 20000 in
theorem gX11_search_X11_weighLatest : GoodIn wsX11_search (wsV RX11 199 RX11 yX11_weighLatest wsX11_weighLatest) := goodIn_app (goodIn_of _ (by decide +kernel)) ggX11_search_X11_weighLatest
set_option maxRecDepth 20000 in
theorem ggX11_search_X11_punish : GoodIn wsX11_search wsX11_punish := goodIn_r _ [136, 137, 138, 139, 27, 28, 29, 140, 141, 142, 143, 144, 145, 42, 146, 8, 176, 177, 178, 179, 180, 181, 182, 183, 147, 148, 149, 150, 151, 152, 153, 154, 155, 156, 157, 158, 159, 160, 161, 162, 163, 164, 165, 166, 167, 168] (by decide +kernel) (by decide +kernel)
set_option maxRecDepth 20000 in
theorem gX11_search_X11_punish : GoodIn wsX11_search (wsV RX11 206 RX11 yX11_punish wsX11_punish) := goodIn_app (goodIn_of _ (by decide +kernel)) ggX11_search_X11_punish
theorem dX11_search_0 : decode cX11_search 0 = .ok (.aload_n 0, 1) := by decide +kernel
theorem dX11_search_1 : decode cX11_search 1 = .ok (.getfield 79, 3) := by decide +kernel
theorem dX11_search_4 : decode cX11_search 4 = .ok (.ifCond .ne 6, 3) := by decide +kernel
theorem dX11_search_7 : decode cX11_search 7 = .ok (.bipush (-3), 2) := by decide +kernel
theorem dX11_search_9 : decode cX11_search 9 = .ok (.ireturn, 1) := by decide +kernel
theorem dX11_search_10 : decode cX11_search 10 = .ok (.aload_n 0, 1) := by decide +kernel
theorem dX11_search_11 : decode cX11_search 11 = .ok (.getfield 10, 3) := by decide +kernel
theorem dX11_search_14 : decode cX11_search 14 = .ok (.invokevirtual 91, 3) := by decide +kernel
theorem dX11_search_17 : decode cX11_search 17 = .ok (.ifCond .eq 6, 3) := by decide +kernel
theorem dX11_search_20 : decode cX11_search 20 = .ok (.bipush (-4), 2) := by decide +kernel
theorem dX11_search_22 : decode cX11_search 22 = .ok (.ireturn, 1) := by decide +kernel
theorem dX11_search_23 : decode cX11_search 23 = .ok (.aload_n 0, 1) := by decide +kernel
theorem dX11_search_24 : decode cX11_search 24 = .ok (.getfield 33, 3) := by decide +kernel
theorem dX11_search_27 : decode cX11_search 27 = .ok (.aload_n 0, 1) := by decide +kernel
theorem dX11_search_28 : decode cX11_search 28 = .ok (.getfield 79, 3) := by decide +kernel
theorem dX11_search_31 : decode cX11_search 31 = .ok (.invokevirtual 185, 3) := by decide +kernel
theorem dX11_search_34 : decode cX11_search 34 = .ok (.istore_n 1, 1) := by decide +kernel
theorem dX11_search_35 : decode cX11_search 35 = .ok (.aload_n 0, 1) := by decide +kernel
theorem dX11_search_36 : decode cX11_search 36 = .ok (.iload_n 1, 1) := by decide +kernel
theorem dX11_search_37 : decode cX11_search 37 = .ok (.invokevirtual 86, 3) := by decide +kernel
theorem dX11_search_40 : decode cX11_search 40 = .ok (.astore_n 2, 1) := by decide +kernel
theorem dX11_search_41 : decode cX11_search 41 = .ok (.aload_n 2, 1) := by decide +kernel
theorem dX11_search_42 : decode cX11_search 42 = .ok (.ifnonnull 6, 3) := by decide +kernel
theorem dX11_search_45 : decode cX11_search 45 = .ok (.bipush (-3), 2) := by decide +kernel
theorem dX11_search_47 : decode cX11_search 47 = .ok (.ireturn, 1) := by decide +kernel
theorem dX11_search_48 : decode cX11_search 48 = .ok (.aload_n 0, 1) := by decide +kernel
theorem dX11_search_49 : decode cX11_search 49 = .ok (.getfield 33, 3) := by decide +kernel
theorem dX11_search_52 : decode cX11_search 52 = .ok (.invokevirtual 188, 3) := by decide +kernel
theorem dX11_search_55 : decode cX11_search 55 = .ok (.new 191, 3) := by decide +kernel
theorem dX11_search_58 : decode cX11_search 58 = .ok (.dup, 1) := by decide +kernel
theorem dX11_search_59 : decode cX11_search 59 = .ok (.aload_n 0, 1) := by decide +kernel
theorem dX11_search_60 : decode cX11_search 60 = .ok (.getfield 10, 3) := by decide +kernel
theorem dX11_search_63 : decode cX11_search 63 = .ok (.getfield 97, 3) := by decide +kernel
theorem dX11_search_66 : decode cX11_search 66 = .ok (.aload_n 0, 1) := by decide +kernel
theorem dX11_search_67 : decode cX11_search 67 = .ok (.getfield 64, 3) := by decide +kernel
theorem dX11_search_70 : decode cX11_search 70 = .ok (.iload_n 1, 1) := by decide +kernel
theorem dX11_search_71 : decode cX11_search 71 = .ok (.invokespecial 193, 3) := by decide +kernel
theorem dX11_search_74 : decode cX11_search 74 = .ok (.astore_n 3, 1) := by decide +kernel
theorem dX11_search_75 : decode cX11_search 75 = .ok (.aload_n 0, 1) := by decide +kernel
theorem dX11_search_76 : decode cX11_search 76 = .ok (.getfield 10, 3) := by decide +kernel
theorem dX11_search_79 : decode cX11_search 79 = .ok (.aload_n 3, 1) := by decide +kernel
theorem dX11_search_80 : decode cX11_search 80 = .ok (.invokevirtual 103, 3) := by decide +kernel
theorem dX11_search_83 : decode cX11_search 83 = .ok (.aload_n 2, 1) := by decide +kernel
theorem dX11_search_84 : decode cX11_search 84 = .ok (.dup, 1) := by decide +kernel
theorem dX11_search_85 : decode cX11_search 85 = .ok (.getfield 196, 3) := by decide +kernel
theorem dX11_search_88 : decode cX11_search 88 = .ok (.iconst 1, 1) := by decide +kernel
theorem dX11_search_89 : decode cX11_search 89 = .ok (.iadd, 1) := by decide +kernel
theorem dX11_search_90 : decode cX11_search 90 = .ok (.putfield 196, 3) := by decide +kernel
theorem dX11_search_93 : decode cX11_search 93 = .ok (.aload_n 0, 1) := by decide +kernel
theorem dX11_search_94 : decode cX11_search 94 = .ok (.aload_n 3, 1) := by decide +kernel
theorem dX11_search_95 : decode cX11_search 95 = .ok (.aload_n 2, 1) := by decide +kernel
theorem dX11_search_96 : decode cX11_search 96 = .ok (.invokevirtual 199, 3) := by decide +kernel
theorem dX11_search_99 : decode cX11_search 99 = .ok (.aload_n 3, 1) := by decide +kernel
theorem dX11_search_100 : decode cX11_search 100 = .ok (.getfield 203, 3) := by decide +kernel
theorem dX11_search_103 : decode cX11_search 103 = .ok (.ifCond .eq 9, 3) := by decide +kernel
theorem dX11_search_106 : decode cX11_search 106 = .ok (.aload_n 0, 1) := by decide +kernel
theorem dX11_search_107 : decode cX11_search 107 = .ok (.aload_n 3, 1) := by decide +kernel
theorem dX11_search_108 : decode cX11_search 108 = .ok (.aload_n 2, 1) := by decide +kernel
theorem dX11_search_109 : decode cX11_search 109 = .ok (.invokevirtual 206, 3) := by decide +kernel
theorem dX11_search_112 : decode cX11_search 112 = .ok (.aload_n 3, 1) := by decide +kernel
theorem dX11_search_113 : decode cX11_search 113 = .ok (.getfield 209, 3) := by decide +kernel
theorem dX11_search_116 : decode cX11_search 116 = .ok (.ireturn, 1) := by decide +kernel
set_option maxRecDepth 20000 in
theorem ggX11_turn_X10_upNext : GoodIn wsX11_turn wsX10_upNext := goodIn_r _ [7, 8, 9, 10, 11, 12, 13, 14, 15, 16, 17, 6, 18, 19, 20, 21, 22, 35, 36, 37, 38] (by decide +kernel) (by decide +kernel)
set_option maxRecDepth 20000 in
theorem gX11_turn_X10_upNext : GoodIn wsX11_turn (wsV RX11 185 RX10 yX10_upNext wsX10_upNext) := goodIn_app (goodIn_of _ (by decide +kernel)) ggX11_turn_X10_upNext
theorem dX11_turn_0 : decode cX11_turn 0 = .ok (.aload_n 0, 1) := by decide +kernel
theorem dX11_turn_1 : decode cX11_turn 1 = .ok (.getfield 79, 3) := by decide +kernel
theorem dX11_turn_4 : decode cX11_turn 4 = .ok (.ifCond .ne 8, 3) := by decide +kernel
theorem dX11_turn_7 : decode cX11_turn 7 = .ok (.bipush (-3), 2) := by decide +kernel
theorem dX11_turn_9 : decode cX11_turn 9 = .ok (.goto 14, 3) := by decide +kernel
theorem dX11_turn_12 : decode cX11_turn 12 = .ok (.aload_n 0, 1) := by decide +kernel
theorem dX11_turn_13 : decode cX11_turn 13 = .ok (.getfield 33, 3) := by decide +kernel
theorem dX11_turn_16 : decode cX11_turn 16 = .ok (.aload_n 0, 1) := by decide +kernel
theorem dX11_turn_17 : decode cX11_turn 17 = .ok (.getfield 79, 3) := by decide +kernel
theorem dX11_turn_20 : decode cX11_turn 20 = .ok (.invokevirtual 185, 3) := by decide +kernel
theorem dX11_turn_23 : decode cX11_turn 23 = .ok (.ireturn, 1) := by decide +kernel
set_option maxRecDepth 20000 in
theorem ggX11_rules_X11_isOutside : GoodIn wsX11_rules wsX11_isOutside := goodIn_r _ [6] (by decide +kernel) (by decide +kernel)
set_option maxRecDepth 20000 in
theorem gX11_rules_X11_isOutside : GoodIn wsX11_rules (va_wsS RX11 60 yX11_isOutside wsX11_isOutside) := goodIn_app (goodIn_of _ (by decide +kernel)) ggX11_rules_X11_isOutside
theorem dX11_rules_0 : decode cX11_rules 0 = .ok (.iload_n 1, 1) := by decide +kernel
theorem dX11_rules_1 : decode cX11_rules 1 = .ok (.iconst 0, 1) := by decide +kernel
theorem dX11_rules_2 : decode cX11_rules 2 = .ok (.iconst 5, 1) := by decide +kernel
theorem dX11_rules_3 : decode cX11_rules 3 = .ok (.invokestatic 60, 3) := by decide +kernel
theorem dX11_rules_6 : decode cX11_rules 6 = .ok (.ifCond .ne 14, 3) := by decide +kernel
theorem dX11_rules_9 : decode cX11_rules 9 = .ok (.iload_n 2, 1) := by decide +kernel
theorem dX11_rules_10 : decode cX11_rules 10 = .ok (.iconst 0, 1) := by decide +kernel
theorem dX11_rules_11 : decode cX11_rules 11 = .ok (.sipush 1000, 3) := by decide +kernel
theorem dX11_rules_14 : decode cX11_rules 14 = .ok (.invokestatic 60, 3) := by decide +kernel
theorem dX11_rules_17 : decode cX11_rules 17 = .ok (.ifCond .eq 6, 3) := by decide +kernel
theorem dX11_rules_20 : decode cX11_rules 20 = .ok (.bipush (-2), 2) := by decide +kernel
theorem dX11_rules_22 : decode cX11_rules 22 = .ok (.ireturn, 1) := by decide +kernel
theorem dX11_rules_23 : decode cX11_rules 23 = .ok (.aload_n 0, 1) := by decide +kernel
theorem dX11_rules_24 : decode cX11_rules 24 = .ok (.iload_n 1, 1) := by decide +kernel
theorem dX11_rules_25 : decode cX11_rules 25 = .ok (.putfield 54, 3) := by decide +kernel
theorem dX11_rules_28 : decode cX11_rules 28 = .ok (.aload_n 0, 1) := by decide +kernel
theorem dX11_rules_29 : decode cX11_rules 29 = .ok (.iload_n 2, 1) := by decide +kernel
theorem dX11_rules_30 : decode cX11_rules 30 = .ok (.putfield 57, 3) := by decide +kernel
theorem dX11_rules_33 : decode cX11_rules 33 = .ok (.iconst 1, 1) := by decide +kernel
theorem dX11_rules_34 : decode cX11_rules 34 = .ok (.ireturn, 1) := by decide +kernel
set_option maxRecDepth 20000 in
theorem ggX11_record_X2_entryAt : GoodIn wsX11_record wsX2_entryAt := goodIn_r _ [9, 10, 11, 60, 61, 62, 63, 64, 65, 66] (by decide +kernel) (by decide +kernel)
set_option maxRecDepth 20000 in
theorem gX11_record_X2_entryAt : GoodIn wsX11_record (wsV RX11 117 RX2 yX2_entryAt wsX2_entryAt) := goodIn_app (goodIn_of _ (by decide +kernel)) ggX11_record_X2_entryAt
set_option maxRecDepth 20000 in
theorem ggX11_record_X3_week : GoodIn wsX11_record wsX3_week := goodIn_r _ [17, 18, 33, 34, 35, 36, 37, 38, 39, 40, 41, 42, 43, 44, 45, 46, 47, 48, 49, 50, 51, 52, 53, 54, 55, 56, 57, 58, 59] (by decide +kernel) (by decide +kernel)
set_option maxRecDepth 20000 in
theorem gX11_record_X3_week_u215X1 : GoodIn wsX11_record (va_wsU RX11 215 RX1 "BreadLaw$Entry" ⟨"BreadLaw$Entry", "week", "()I"⟩ yX3_week wsX3_week) := goodIn_app (goodIn_of _ (by decide +kernel)) ggX11_record_X3_week
set_option maxRecDepth 20000 in
theorem gX11_record_X3_week_u215X6 : GoodIn wsX11_record (va_wsU RX11 215 RX6 "BreadLaw$Entry" ⟨"BreadLaw$Entry", "week", "()I"⟩ yX3_week wsX3_week) := goodIn_app (goodIn_of _ (by decide +kernel)) ggX11_record_X3_week
set_option maxRecDepth 20000 in
theorem gX11_record_X3_week_u215X8 : GoodIn wsX11_record (va_wsU RX11 215 RX8 "BreadLaw$Entry" ⟨"BreadLaw$Entry", "week", "()I"⟩ yX3_week wsX3_week) := goodIn_app (goodIn_of _ (by decide +kernel)) ggX11_record_X3_week
theorem dX11_record_0 : decode cX11_record 0 = .ok (.aload_n 0, 1) := by decide +kernel
theorem dX11_record_1 : decode cX11_record 1 = .ok (.getfield 10, 3) := by decide +kernel
theorem dX11_record_4 : decode cX11_record 4 = .ok (.iload_n 1, 1) := by decide +kernel
theorem dX11_record_5 : decode cX11_record 5 = .ok (.invokevirtual 117, 3) := by decide +kernel
theorem dX11_record_8 : decode cX11_record 8 = .ok (.astore_n 3, 1) := by decide +kernel
theorem dX11_record_9 : decode cX11_record 9 = .ok (.aload_n 3, 1) := by decide +kernel
theorem dX11_record_10 : decode cX11_record 10 = .ok (.ifnonnull 5, 3) := by decide +kernel
theorem dX11_record_13 : decode cX11_record 13 = .ok (.iconst (-1), 1) := by decide +kernel
theorem dX11_record_14 : decode cX11_record 14 = .ok (.ireturn, 1) := by decide +kernel
theorem dX11_record_15 : decode cX11_record 15 = .ok (.iload_n 2, 1) := by decide +kernel
theorem dX11_record_16 : decode cX11_record 16 = .ok (.tableswitch 56 0 3 #[32, 37, 42, 51], 32) := by decide +kernel
theorem dX11_record_48 : decode cX11_record 48 = .ok (.aload_n 3, 1) := by decide +kernel
theorem dX11_record_49 : decode cX11_record 49 = .ok (.getfield 210, 3) := by decide +kernel
theorem dX11_record_52 : decode cX11_record 52 = .ok (.ireturn, 1) := by decide +kernel
theorem dX11_record_53 : decode cX11_record 53 = .ok (.aload_n 3, 1) := by decide +kernel
theorem dX11_record_54 : decode cX11_record 54 = .ok (.invokevirtual 215, 3) := by decide +kernel
theorem dX11_record_57 : decode cX11_record 57 = .ok (.ireturn, 1) := by decide +kernel
theorem dX11_record_58 : decode cX11_record 58 = .ok (.aload_n 3, 1) := by decide +kernel
theorem dX11_record_59 : decode cX11_record 59 = .ok (.getfield 218, 3) := by decide +kernel
theorem dX11_record_62 : decode cX11_record 62 = .ok (.sipush 168, 3) := by decide +kernel
theorem dX11_record_65 : decode cX11_record 65 = .ok (.irem, 1) := by decide +kernel
theorem dX11_record_66 : decode cX11_record 66 = .ok (.ireturn, 1) := by decide +kernel
theorem dX11_record_67 : decode cX11_record 67 = .ok (.aload_n 3, 1) := by decide +kernel
theorem dX11_record_68 : decode cX11_record 68 = .ok (.getfield 221, 3) := by decide +kernel
theorem dX11_record_71 : decode cX11_record 71 = .ok (.ireturn, 1) := by decide +kernel
theorem dX11_record_72 : decode cX11_record 72 = .ok (.bipush (-2), 2) := by decide +kernel
theorem dX11_record_74 : decode cX11_record 74 = .ok (.ireturn, 1) := by decide +kernel
set_option maxRecDepth 20000 in
theorem ggX11_lot_X2_entryAt : GoodIn wsX11_lot wsX2_entryAt := goodIn_r _ [7, 8, 9, 35, 36, 37, 38, 39, 40, 41] (by decide +kernel) (by decide +kernel)
set_option maxRecDepth 20000 in
theorem gX11_lot_X2_entryAt : GoodIn wsX11_lot (wsV RX11 117 RX2 yX2_entryAt wsX2_entryAt) := goodIn_app (goodIn_of _ (by decide +kernel)) ggX11_lot_X2_entryAt
set_option maxRecDepth 20000 in
theorem ggX11_lot_X11_isOutside : GoodIn wsX11_lot wsX11_isOutside := goodIn_r _ [13] (by decide +kernel) (by decide +kernel)
set_option maxRecDepth 20000 in
theorem gX11_lot_X11_isOutside : GoodIn wsX11_lot (va_wsS RX11 60 yX11_isOutside wsX11_isOutside) := goodIn_app (goodIn_of _ (by decide +kernel)) ggX11_lot_X11_isOutside
set_option maxRecDepth 20000 in
theorem ggX11_lot_X6_detail : GoodIn wsX11_lot wsX6_detail := goodIn_r _ [18, 19, 20, 21, 22, 42, 43, 44, 45, 46, 47, 48, 49] (by decide +kernel) (by decide +kernel)
set_option maxRecDepth 20000 in
theorem gX11_lot_X6_detail : GoodIn wsX11_lot (wsV RX11 224 RX6 yX6_detail wsX6_detail) := goodIn_app (goodIn_of _ (by decide +kernel)) ggX11_lot_X6_detail
theorem dX11_lot_0 : decode cX11_lot 0 = .ok (.aload_n 0, 1) := by decide +kernel
theorem dX11_lot_1 : decode cX11_lot 1 = .ok (.getfield 10, 3) := by decide +kernel
theorem dX11_lot_4 : decode cX11_lot 4 = .ok (.iload_n 1, 1) := by decide +kernel
theorem dX11_lot_5 : decode cX11_lot 5 = .ok (.invokevirtual 117, 3) := by decide +kernel
theorem dX11_lot_8 : decode cX11_lot 8 = .ok (.astore_n 3, 1) := by decide +kernel
theorem dX11_lot_9 : decode cX11_lot 9 = .ok (.aload_n 3, 1) := by decide +kernel
theorem dX11_lot_10 : decode cX11_lot 10 = .ok (.ifnonnull 5, 3) := by decide +kernel
theorem dX11_lot_13 : decode cX11_lot 13 = .ok (.iconst (-1), 1) := by decide +kernel
theorem dX11_lot_14 : decode cX11_lot 14 = .ok (.ireturn, 1) := by decide +kernel
theorem dX11_lot_15 : decode cX11_lot 15 = .ok (.iload_n 2, 1) := by decide +kernel
theorem dX11_lot_16 : decode cX11_lot 16 = .ok (.iconst 0, 1) := by decide +kernel
theorem dX11_lot_17 : decode cX11_lot 17 = .ok (.iconst 3, 1) := by decide +kernel
theorem dX11_lot_18 : decode cX11_lot 18 = .ok (.invokestatic 60, 3) := by decide +kernel
theorem dX11_lot_21 : decode cX11_lot 21 = .ok (.ifCond .eq 6, 3) := by decide +kernel
theorem dX11_lot_24 : decode cX11_lot 24 = .ok (.bipush (-2), 2) := by decide +kernel
theorem dX11_lot_26 : decode cX11_lot 26 = .ok (.ireturn, 1) := by decide +kernel
theorem dX11_lot_27 : decode cX11_lot 27 = .ok (.aload_n 3, 1) := by decide +kernel
theorem dX11_lot_28 : decode cX11_lot 28 = .ok (.instanceof 95, 3) := by decide +kernel
theorem dX11_lot_31 : decode cX11_lot 31 = .ok (.ifCond .eq 16, 3) := by decide +kernel
theorem dX11_lot_34 : decode cX11_lot 34 = .ok (.aload_n 3, 1) := by decide +kernel
theorem dX11_lot_35 : decode cX11_lot 35 = .ok (.checkcast 95, 3) := by decide +kernel
theorem dX11_lot_38 : decode cX11_lot 38 = .ok (.astore 4, 2) := by decide +kernel
theorem dX11_lot_40 : decode cX11_lot 40 = .ok (.aload 4, 2) := by decide +kernel
theorem dX11_lot_42 : decode cX11_lot 42 = .ok (.iload_n 2, 1) := by decide +kernel
theorem dX11_lot_43 : decode cX11_lot 43 = .ok (.invokevirtual 224, 3) := by decide +kernel
theorem dX11_lot_46 : decode cX11_lot 46 = .ok (.ireturn, 1) := by decide +kernel
theorem dX11_lot_47 : decode cX11_lot 47 = .ok (.bipush (-5), 2) := by decide +kernel
theorem dX11_lot_49 : decode cX11_lot 49 = .ok (.ireturn, 1) := by decide +kernel
set_option maxRecDepth 20000 in
theorem ggX11_batch_X2_entryAt : GoodIn wsX11_batch wsX2_entryAt := goodIn_r _ [7, 8, 9, 40, 41, 42, 43, 44, 45, 46] (by decide +kernel) (by decide +kernel)
set_option maxRecDepth 20000 in
theorem gX11_batch_X2_entryAt : GoodIn wsX11_batch (wsV RX11 117 RX2 yX2_entryAt wsX2_entryAt) := goodIn_app (goodIn_of _ (by decide +kernel)) ggX11_batch_X2_entryAt
set_option maxRecDepth 20000 in
theorem ggX11_batch_X1_detail : GoodIn wsX11_batch wsX1_detail := goodIn_r _ [14, 15, 16, 17, 18, 47, 48, 49, 50, 51, 52, 53, 54, 55] (by decide +kernel) (by decide +kernel)
set_option maxRecDepth 20000 in
theorem gX11_batch_X1_detail : GoodIn wsX11_batch (wsV RX11 227 RX1 yX1_detail wsX1_detail) := goodIn_app (goodIn_of _ (by decide +kernel)) ggX11_batch_X1_detail
set_option maxRecDepth 20000 in
theorem ggX11_batch_X2_giftDetail : GoodIn wsX11_batch wsX2_giftDetail := goodIn_r _ [22, 23, 24, 25, 26, 27, 47, 48, 49, 50, 51, 52, 53, 54, 55, 40, 41, 42, 43, 44, 45, 46] (by decide +kernel) (by decide +kernel)
set_option maxRecDepth 20000 in
theorem gX11_batch_X2_giftDetail : GoodIn wsX11_batch (wsV RX11 228 RX2 yX2_giftDetail wsX2_giftDetail) := goodIn_app (goodIn_of _ (by decide +kernel)) ggX11_batch_X2_giftDetail
theorem dX11_batch_0 : decode cX11_batch 0 = .ok (.aload_n 0, 1) := by decide +kernel
theorem dX11_batch_1 : decode cX11_batch 1 = .ok (.getfield 10, 3) := by decide +kernel
theorem dX11_batch_4 : decode cX11_batch 4 = .ok (.iload_n 1, 1) := by decide +kernel
theorem dX11_batch_5 : decode cX11_batch 5 = .ok (.invokevirtual 117, 3) := by decide +kernel
theorem dX11_batch_8 : decode cX11_batch 8 = .ok (.astore_n 3, 1) := by decide +kernel
theorem dX11_batch_9 : decode cX11_batch 9 = .ok (.aload_n 3, 1) := by decide +kernel
theorem dX11_batch_10 : decode cX11_batch 10 = .ok (.ifnonnull 5, 3) := by decide +kernel
theorem dX11_batch_13 : decode cX11_batch 13 = .ok (.iconst (-1), 1) := by decide +kernel
theorem dX11_batch_14 : decode cX11_batch 14 = .ok (.ireturn, 1) := by decide +kernel
theorem dX11_batch_15 : decode cX11_batch 15 = .ok (.iload_n 2, 1) := by decide +kernel
theorem dX11_batch_16 : decode cX11_batch 16 = .ok (.ifCond .lt 14, 3) := by decide +kernel
theorem dX11_batch_19 : decode cX11_batch 19 = .ok (.iload_n 2, 1) := by decide +kernel
theorem dX11_batch_20 : decode cX11_batch 20 = .ok (.iconst 3, 1) := by decide +kernel
theorem dX11_batch_21 : decode cX11_batch 21 = .ok (.if_icmp .le 12, 3) := by decide +kernel
theorem dX11_batch_24 : decode cX11_batch 24 = .ok (.iload_n 2, 1) := by decide +kernel
theorem dX11_batch_25 : decode cX11_batch 25 = .ok (.bipush 10, 2) := by decide +kernel
theorem dX11_batch_27 : decode cX11_batch 27 = .ok (.if_icmp .ge 6, 3) := by decide +kernel
theorem dX11_batch_30 : decode cX11_batch 30 = .ok (.bipush (-2), 2) := by decide +kernel
theorem dX11_batch_32 : decode cX11_batch 32 = .ok (.ireturn, 1) := by decide +kernel
theorem dX11_batch_33 : decode cX11_batch 33 = .ok (.aload_n 3, 1) := by decide +kernel
theorem dX11_batch_34 : decode cX11_batch 34 = .ok (.instanceof 170, 3) := by decide +kernel
theorem dX11_batch_37 : decode cX11_batch 37 = .ok (.ifCond .eq 38, 3) := by decide +kernel
theorem dX11_batch_40 : decode cX11_batch 40 = .ok (.aload_n 3, 1) := by decide +kernel
theorem dX11_batch_41 : decode cX11_batch 41 = .ok (.checkcast 170, 3) := by decide +kernel
theorem dX11_batch_44 : decode cX11_batch 44 = .ok (.astore 4, 2) := by decide +kernel
theorem dX11_batch_46 : decode cX11_batch 46 = .ok (.iload_n 2, 1) := by decide +kernel
theorem dX11_batch_47 : decode cX11_batch 47 = .ok (.bipush 10, 2) := by decide +kernel
theorem dX11_batch_49 : decode cX11_batch 49 = .ok (.if_icmp .ge 12, 3) := by decide +kernel
theorem dX11_batch_52 : decode cX11_batch 52 = .ok (.aload 4, 2) := by decide +kernel
theorem dX11_batch_54 : decode cX11_batch 54 = .ok (.iload_n 2, 1) := by decide +kernel
theorem dX11_batch_55 : decode cX11_batch 55 = .ok (.invokevirtual 227, 3) := by decide +kernel
theorem dX11_batch_58 : decode cX11_batch 58 = .ok (.goto 16, 3) := by decide +kernel
theorem dX11_batch_61 : decode cX11_batch 61 = .ok (.aload_n 0, 1) := by decide +kernel
theorem dX11_batch_62 : decode cX11_batch 62 = .ok (.getfield 10, 3) := by decide +kernel
theorem dX11_batch_65 : decode cX11_batch 65 = .ok (.aload 4, 2) := by decide +kernel
theorem dX11_batch_67 : decode cX11_batch 67 = .ok (.iload_n 2, 1) := by decide +kernel
theorem dX11_batch_68 : decode cX11_batch 68 = .ok (.bipush 10, 2) := by decide +kernel
theorem dX11_batch_70 : decode cX11_batch 70 = .ok (.isub, 1) := by decide +kernel
theorem dX11_batch_71 : decode cX11_batch 71 = .ok (.invokevirtual 228, 3) := by decide +kernel
theorem dX11_batch_74 : decode cX11_batch 74 = .ok (.ireturn, 1) := by decide +kernel
theorem dX11_batch_75 : decode cX11_batch 75 = .ok (.bipush (-5), 2) := by decide +kernel
theorem dX11_batch_77 : decode cX11_batch 77 = .ok (.ireturn, 1) := by decide +kernel
set_option maxRecDepth 20000 in
theorem ggX11_found_X2_entryAt : GoodIn wsX11_found wsX2_entryAt := goodIn_r _ [7, 8, 9, 37, 38, 39, 40, 41, 42, 43] (by decide +kernel) (by decide +kernel)
set_option maxRecDepth 20000 in
theorem gX11_found_X2_entryAt : GoodIn wsX11_found (wsV RX11 117 RX2 yX2_entryAt wsX2_entryAt) := goodIn_app (goodIn_of _ (by decide +kernel)) ggX11_found_X2_entryAt
set_option maxRecDepth 20000 in
theorem ggX11_found_X11_isOutside : GoodIn wsX11_found wsX11_isOutside := goodIn_r _ [13] (by decide +kernel) (by decide +kernel)
set_option maxRecDepth 20000 in
theorem gX11_found_X11_isOutside : GoodIn wsX11_found (va_wsS RX11 60 yX11_isOutside wsX11_isOutside) := goodIn_app (goodIn_of _ (by decide +kernel)) ggX11_found_X11_isOutside
set_option maxRecDepth 20000 in
theorem ggX11_found_X8_detail : GoodIn wsX11_found wsX8_detail := goodIn_r _ [18, 19, 20, 21, 22, 23, 24, 44, 45, 46, 47, 48, 49, 50, 51, 52, 53] (by decide +kernel) (by decide +kernel)
set_option maxRecDepth 20000 in
theorem gX11_found_X8_detail : GoodIn wsX11_found (wsV RX11 232 RX8 yX8_detail wsX8_detail) := goodIn_app (goodIn_of _ (by decide +kernel)) ggX11_found_X8_detail
theorem dX11_found_0 : decode cX11_found 0 = .ok (.aload_n 0, 1) := by decide +kernel
theorem dX11_found_1 : decode cX11_found 1 = .ok (.getfield 10, 3) := by decide +kernel
theorem dX11_found_4 : decode cX11_found 4 = .ok (.iload_n 1, 1) := by decide +kernel
theorem dX11_found_5 : decode cX11_found 5 = .ok (.invokevirtual 117, 3) := by decide +kernel
theorem dX11_found_8 : decode cX11_found 8 = .ok (.astore_n 3, 1) := by decide +kernel
theorem dX11_found_9 : decode cX11_found 9 = .ok (.aload_n 3, 1) := by decide +kernel
theorem dX11_found_10 : decode cX11_found 10 = .ok (.ifnonnull 5, 3) := by decide +kernel
theorem dX11_found_13 : decode cX11_found 13 = .ok (.iconst (-1), 1) := by decide +kernel
theorem dX11_found_14 : decode cX11_found 14 = .ok (.ireturn, 1) := by decide +kernel
theorem dX11_found_15 : decode cX11_found 15 = .ok (.iload_n 2, 1) := by decide +kernel
theorem dX11_found_16 : decode cX11_found 16 = .ok (.iconst 0, 1) := by decide +kernel
theorem dX11_found_17 : decode cX11_found 17 = .ok (.iconst 5, 1) := by decide +kernel
theorem dX11_found_18 : decode cX11_found 18 = .ok (.invokestatic 60, 3) := by decide +kernel
theorem dX11_found_21 : decode cX11_found 21 = .ok (.ifCond .eq 6, 3) := by decide +kernel
theorem dX11_found_24 : decode cX11_found 24 = .ok (.bipush (-2), 2) := by decide +kernel
theorem dX11_found_26 : decode cX11_found 26 = .ok (.ireturn, 1) := by decide +kernel
theorem dX11_found_27 : decode cX11_found 27 = .ok (.aload_n 3, 1) := by decide +kernel
theorem dX11_found_28 : decode cX11_found 28 = .ok (.instanceof 191, 3) := by decide +kernel
theorem dX11_found_31 : decode cX11_found 31 = .ok (.ifCond .eq 16, 3) := by decide +kernel
theorem dX11_found_34 : decode cX11_found 34 = .ok (.aload_n 3, 1) := by decide +kernel
theorem dX11_found_35 : decode cX11_found 35 = .ok (.checkcast 191, 3) := by decide +kernel
theorem dX11_found_38 : decode cX11_found 38 = .ok (.astore 4, 2) := by decide +kernel
theorem dX11_found_40 : decode cX11_found 40 = .ok (.aload 4, 2) := by decide +kernel
theorem dX11_found_42 : decode cX11_found 42 = .ok (.iload_n 2, 1) := by decide +kernel
theorem dX11_found_43 : decode cX11_found 43 = .ok (.invokevirtual 232, 3) := by decide +kernel
theorem dX11_found_46 : decode cX11_found 46 = .ok (.ireturn, 1) := by decide +kernel
theorem dX11_found_47 : decode cX11_found 47 = .ok (.bipush (-5), 2) := by decide +kernel
theorem dX11_found_49 : decode cX11_found 49 = .ok (.ireturn, 1) := by decide +kernel
set_option maxRecDepth 20000 in
theorem ggX11_about_X11_bakerAt : GoodIn wsX11_about wsX11_bakerAt := goodIn_r _ [5, 6, 7, 23, 24, 25, 26, 27, 28, 29, 30, 31, 32, 33, 34] (by decide +kernel) (by decide +kernel)
set_option maxRecDepth 20000 in
theorem gX11_about_X11_bakerAt : GoodIn wsX11_about (wsV RX11 86 RX11 yX11_bakerAt wsX11_bakerAt) := goodIn_app (goodIn_of _ (by decide +kernel)) ggX11_about_X11_bakerAt
set_option maxRecDepth 20000 in
theorem ggX11_about_X0_detail : GoodIn wsX11_about wsX0_detail := goodIn_r _ [12, 13, 14, 15, 16, 17, 18, 19, 20, 21, 22, 35, 36, 37, 38, 39, 40, 41, 42, 43, 44, 45, 46, 47, 48, 49, 50, 51, 52, 53, 54, 55, 56, 57, 58, 59, 60, 61, 62, 63, 64, 65, 66, 67, 68, 69] (by decide +kernel) (by decide +kernel)
set_option maxRecDepth 20000 in
theorem gX11_about_X0_detail : GoodIn wsX11_about (wsV RX11 233 RX0 yX0_detail wsX0_detail) := goodIn_app (goodIn_of _ (by decide +kernel)) ggX11_about_X0_detail
theorem dX11_about_0 : decode cX11_about 0 = .ok (.aload_n 0, 1) := by decide +kernel
theorem dX11_about_1 : decode cX11_about 1 = .ok (.iload_n 1, 1) := by decide +kernel
theorem dX11_about_2 : decode cX11_about 2 = .ok (.invokevirtual 86, 3) := by decide +kernel
theorem dX11_about_5 : decode cX11_about 5 = .ok (.astore_n 3, 1) := by decide +kernel
theorem dX11_about_6 : decode cX11_about 6 = .ok (.aload_n 3, 1) := by decide +kernel
theorem dX11_about_7 : decode cX11_about 7 = .ok (.ifnonnull 5, 3) := by decide +kernel
theorem dX11_about_10 : decode cX11_about 10 = .ok (.iconst (-1), 1) := by decide +kernel
theorem dX11_about_11 : decode cX11_about 11 = .ok (.ireturn, 1) := by decide +kernel
theorem dX11_about_12 : decode cX11_about 12 = .ok (.aload_n 3, 1) := by decide +kernel
theorem dX11_about_13 : decode cX11_about 13 = .ok (.iload_n 2, 1) := by decide +kernel
theorem dX11_about_14 : decode cX11_about 14 = .ok (.invokevirtual 233, 3) := by decide +kernel
theorem dX11_about_17 : decode cX11_about 17 = .ok (.ireturn, 1) := by decide +kernel
set_option maxRecDepth 20000 in
theorem ggX11_store_X11_isOutside : GoodIn wsX11_store wsX11_isOutside := goodIn_r _ [8] (by decide +kernel) (by decide +kernel)
set_option maxRecDepth 20000 in
theorem gX11_store_X11_isOutside : GoodIn wsX11_store (va_wsS RX11 60 yX11_isOutside wsX11_isOutside) := goodIn_app (goodIn_of _ (by decide +kernel)) ggX11_store_X11_isOutside
theorem dX11_store_0 : decode cX11_store 0 = .ok (.iload_n 1, 1) := by decide +kernel
theorem dX11_store_1 : decode cX11_store 1 = .ok (.iconst 1, 1) := by decide +kernel
theorem dX11_store_2 : decode cX11_store 2 = .ok (.ldc 234, 2) := by decide +kernel
theorem dX11_store_4 : decode cX11_store 4 = .ok (.invokestatic 60, 3) := by decide +kernel
theorem dX11_store_7 : decode cX11_store 7 = .ok (.ifCond .eq 6, 3) := by decide +kernel
theorem dX11_store_10 : decode cX11_store 10 = .ok (.bipush (-2), 2) := by decide +kernel
theorem dX11_store_12 : decode cX11_store 12 = .ok (.ireturn, 1) := by decide +kernel
theorem dX11_store_13 : decode cX11_store 13 = .ok (.aload_n 0, 1) := by decide +kernel
theorem dX11_store_14 : decode cX11_store 14 = .ok (.getfield 40, 3) := by decide +kernel
theorem dX11_store_17 : decode cX11_store 17 = .ok (.getfield 235, 3) := by decide +kernel
theorem dX11_store_20 : decode cX11_store 20 = .ok (.iload_n 1, 1) := by decide +kernel
theorem dX11_store_21 : decode cX11_store 21 = .ok (.iadd, 1) := by decide +kernel
theorem dX11_store_22 : decode cX11_store 22 = .ok (.ldc 238, 2) := by decide +kernel
theorem dX11_store_24 : decode cX11_store 24 = .ok (.if_icmp .le 6, 3) := by decide +kernel
theorem dX11_store_27 : decode cX11_store 27 = .ok (.bipush (-4), 2) := by decide +kernel
theorem dX11_store_29 : decode cX11_store 29 = .ok (.ireturn, 1) := by decide +kernel
theorem dX11_store_30 : decode cX11_store 30 = .ok (.aload_n 0, 1) := by decide +kernel
theorem dX11_store_31 : decode cX11_store 31 = .ok (.getfield 40, 3) := by decide +kernel
theorem dX11_store_34 : decode cX11_store 34 = .ok (.dup, 1) := by decide +kernel
theorem dX11_store_35 : decode cX11_store 35 = .ok (.getfield 235, 3) := by decide +kernel
theorem dX11_store_38 : decode cX11_store 38 = .ok (.iload_n 1, 1) := by decide +kernel
theorem dX11_store_39 : decode cX11_store 39 = .ok (.iadd, 1) := by decide +kernel
theorem dX11_store_40 : decode cX11_store 40 = .ok (.putfield 235, 3) := by decide +kernel
theorem dX11_store_43 : decode cX11_store 43 = .ok (.aload_n 0, 1) := by decide +kernel
theorem dX11_store_44 : decode cX11_store 44 = .ok (.getfield 40, 3) := by decide +kernel
theorem dX11_store_47 : decode cX11_store 47 = .ok (.getfield 235, 3) := by decide +kernel
theorem dX11_store_50 : decode cX11_store 50 = .ok (.ireturn, 1) := by decide +kernel
set_option maxRecDepth 20000 in
theorem ggX11_mouths_X11_isOutside : GoodIn wsX11_mouths wsX11_isOutside := goodIn_r _ [7] (by decide +kernel) (by decide +kernel)
set_option maxRecDepth 20000 in
theorem gX11_mouths_X11_isOutside : GoodIn wsX11_mouths (va_wsS RX11 60 yX11_isOutside wsX11_isOutside) := goodIn_app (goodIn_of _ (by decide +kernel)) ggX11_mouths_X11_isOutside
theorem dX11_mouths_0 : decode cX11_mouths 0 = .ok (.iload_n 1, 1) := by decide +kernel
theorem dX11_mouths_1 : decode cX11_mouths 1 = .ok (.iconst 0, 1) := by decide +kernel
theorem dX11_mouths_2 : decode cX11_mouths 2 = .ok (.sipush 10000, 3) := by decide +kernel
theorem dX11_mouths_5 : decode cX11_mouths 5 = .ok (.invokestatic 60, 3) := by decide +kernel
theorem dX11_mouths_8 : decode cX11_mouths 8 = .ok (.ifCond .ne 14, 3) := by decide +kernel
theorem dX11_mouths_11 : decode cX11_mouths 11 = .ok (.iload_n 2, 1) := by decide +kernel
theorem dX11_mouths_12 : decode cX11_mouths 12 = .ok (.iconst 1, 1) := by decide +kernel
theorem dX11_mouths_13 : decode cX11_mouths 13 = .ok (.sipush 1000, 3) := by decide +kernel
theorem dX11_mouths_16 : decode cX11_mouths 16 = .ok (.invokestatic 60, 3) := by decide +kernel
theorem dX11_mouths_19 : decode cX11_mouths 19 = .ok (.ifCond .eq 6, 3) := by decide +kernel
theorem dX11_mouths_22 : decode cX11_mouths 22 = .ok (.bipush (-2), 2) := by decide +kernel
theorem dX11_mouths_24 : decode cX11_mouths 24 = .ok (.ireturn, 1) := by decide +kernel
theorem dX11_mouths_25 : decode cX11_mouths 25 = .ok (.aload_n 0, 1) := by decide +kernel
theorem dX11_mouths_26 : decode cX11_mouths 26 = .ok (.getfield 40, 3) := by decide +kernel
theorem dX11_mouths_29 : decode cX11_mouths 29 = .ok (.iload_n 1, 1) := by decide +kernel
theorem dX11_mouths_30 : decode cX11_mouths 30 = .ok (.putfield 239, 3) := by decide +kernel
theorem dX11_mouths_33 : decode cX11_mouths 33 = .ok (.aload_n 0, 1) := by decide +kernel
theorem dX11_mouths_34 : decode cX11_mouths 34 = .ok (.getfield 40, 3) := by decide +kernel
theorem dX11_mouths_37 : decode cX11_mouths 37 = .ok (.iload_n 2, 1) := by decide +kernel
theorem dX11_mouths_38 : decode cX11_mouths 38 = .ok (.putfield 242, 3) := by decide +kernel
theorem dX11_mouths_41 : decode cX11_mouths 41 = .ok (.iconst 1, 1) := by decide +kernel
theorem dX11_mouths_42 : decode cX11_mouths 42 = .ok (.ireturn, 1) := by decide +kernel
set_option maxRecDepth 20000 in
theorem ggX11_ration_X11_isOutside : GoodIn wsX11_ration wsX11_isOutside := goodIn_r _ [6] (by decide +kernel) (by decide +kernel)
set_option maxRecDepth 20000 in
theorem gX11_ration_X11_isOutside : GoodIn wsX11_ration (va_wsS RX11 60 yX11_isOutside wsX11_isOutside) := goodIn_app (goodIn_of _ (by decide +kernel)) ggX11_ration_X11_isOutside
theorem dX11_ration_0 : decode cX11_ration 0 = .ok (.iload_n 1, 1) := by decide +kernel
theorem dX11_ration_1 : decode cX11_ration 1 = .ok (.iconst 1, 1) := by decide +kernel
theorem dX11_ration_2 : decode cX11_ration 2 = .ok (.bipush 100, 2) := by decide +kernel
theorem dX11_ration_4 : decode cX11_ration 4 = .ok (.invokestatic 60, 3) := by decide +kernel
theorem dX11_ration_7 : decode cX11_ration 7 = .ok (.ifCond .eq 6, 3) := by decide +kernel
theorem dX11_ration_10 : decode cX11_ration 10 = .ok (.bipush (-2), 2) := by decide +kernel
theorem dX11_ration_12 : decode cX11_ration 12 = .ok (.ireturn, 1) := by decide +kernel
theorem dX11_ration_13 : decode cX11_ration 13 = .ok (.aload_n 0, 1) := by decide +kernel
theorem dX11_ration_14 : decode cX11_ration 14 = .ok (.getfield 40, 3) := by decide +kernel
theorem dX11_ration_17 : decode cX11_ration 17 = .ok (.getfield 245, 3) := by decide +kernel
theorem dX11_ration_20 : decode cX11_ration 20 = .ok (.istore_n 2, 1) := by decide +kernel
theorem dX11_ration_21 : decode cX11_ration 21 = .ok (.aload_n 0, 1) := by decide +kernel
theorem dX11_ration_22 : decode cX11_ration 22 = .ok (.getfield 40, 3) := by decide +kernel
theorem dX11_ration_25 : decode cX11_ration 25 = .ok (.iload_n 1, 1) := by decide +kernel
theorem dX11_ration_26 : decode cX11_ration 26 = .ok (.putfield 245, 3) := by decide +kernel
theorem dX11_ration_29 : decode cX11_ration 29 = .ok (.iload_n 2, 1) := by decide +kernel
theorem dX11_ration_30 : decode cX11_ration 30 = .ok (.ireturn, 1) := by decide +kernel
set_option maxRecDepth 20000 in
theorem ggX11_harvest_X11_isOutside : GoodIn wsX11_harvest wsX11_isOutside := goodIn_r _ [7] (by decide +kernel) (by decide +kernel)
set_option maxRecDepth 20000 in
theorem gX11_harvest_X11_isOutside : GoodIn wsX11_harvest (va_wsS RX11 60 yX11_isOutside wsX11_isOutside) := goodIn_app (goodIn_of _ (by decide +kernel)) ggX11_harvest_X11_isOutside
set_option maxRecDepth 20000 in
theorem ggX11_harvest_X11_weekNow : GoodIn wsX11_harvest wsX11_weekNow := goodIn_r _ [11, 12, 21, 22, 23, 24, 25, 26, 27, 28, 29, 30, 31, 32] (by decide +kernel) (by decide +kernel)
set_option maxRecDepth 20000 in
theorem gX11_harvest_X11_weekNow : GoodIn wsX11_harvest (wsV RX11 68 RX11 yX11_weekNow wsX11_weekNow) := goodIn_app (goodIn_of _ (by decide +kernel)) ggX11_harvest_X11_weekNow
set_option maxRecDepth 20000 in
theorem ggX11_harvest_X4_expect : GoodIn wsX11_harvest wsX4_expect := goodIn_r _ [17, 18, 19, 20, 33, 34, 35, 36, 37, 38, 39, 40] (by decide +kernel) (by decide +kernel)
set_option maxRecDepth 20000 in
theorem gX11_harvest_X4_expect : GoodIn wsX11_harvest (wsV RX11 251 RX4 yX4_expect wsX4_expect) := goodIn_app (goodIn_of _ (by decide +kernel)) ggX11_harvest_X4_expect
theorem dX11_harvest_0 : decode cX11_harvest 0 = .ok (.iload_n 1, 1) := by decide +kernel
theorem dX11_harvest_1 : decode cX11_harvest 1 = .ok (.iconst 0, 1) := by decide +kernel
theorem dX11_harvest_2 : decode cX11_harvest 2 = .ok (.sipush 199, 3) := by decide +kernel
theorem dX11_harvest_5 : decode cX11_harvest 5 = .ok (.invokestatic 60, 3) := by decide +kernel
theorem dX11_harvest_8 : decode cX11_harvest 8 = .ok (.ifCond .ne 13, 3) := by decide +kernel
theorem dX11_harvest_11 : decode cX11_harvest 11 = .ok (.iload_n 2, 1) := by decide +kernel
theorem dX11_harvest_12 : decode cX11_harvest 12 = .ok (.iconst 1, 1) := by decide +kernel
theorem dX11_harvest_13 : decode cX11_harvest 13 = .ok (.ldc 234, 2) := by decide +kernel
theorem dX11_harvest_15 : decode cX11_harvest 15 = .ok (.invokestatic 60, 3) := by decide +kernel
theorem dX11_harvest_18 : decode cX11_harvest 18 = .ok (.ifCond .eq 6, 3) := by decide +kernel
theorem dX11_harvest_21 : decode cX11_harvest 21 = .ok (.bipush (-2), 2) := by decide +kernel
theorem dX11_harvest_23 : decode cX11_harvest 23 = .ok (.ireturn, 1) := by decide +kernel
theorem dX11_harvest_24 : decode cX11_harvest 24 = .ok (.aload_n 0, 1) := by decide +kernel
theorem dX11_harvest_25 : decode cX11_harvest 25 = .ok (.getfield 40, 3) := by decide +kernel
theorem dX11_harvest_28 : decode cX11_harvest 28 = .ok (.getfield 248, 3) := by decide +kernel
theorem dX11_harvest_31 : decode cX11_harvest 31 = .ok (.bipush 10, 2) := by decide +kernel
theorem dX11_harvest_33 : decode cX11_harvest 33 = .ok (.if_icmp .lt 6, 3) := by decide +kernel
theorem dX11_harvest_36 : decode cX11_harvest 36 = .ok (.bipush (-4), 2) := by decide +kernel
theorem dX11_harvest_38 : decode cX11_harvest 38 = .ok (.ireturn, 1) := by decide +kernel
theorem dX11_harvest_39 : decode cX11_harvest 39 = .ok (.iload_n 1, 1) := by decide +kernel
theorem dX11_harvest_40 : decode cX11_harvest 40 = .ok (.aload_n 0, 1) := by decide +kernel
theorem dX11_harvest_41 : decode cX11_harvest 41 = .ok (.invokevirtual 68, 3) := by decide +kernel
theorem dX11_harvest_44 : decode cX11_harvest 44 = .ok (.if_icmp .gt 6, 3) := by decide +kernel
theorem dX11_harvest_47 : decode cX11_harvest 47 = .ok (.bipush (-5), 2) := by decide +kernel
theorem dX11_harvest_49 : decode cX11_harvest 49 = .ok (.ireturn, 1) := by decide +kernel
theorem dX11_harvest_50 : decode cX11_harvest 50 = .ok (.aload_n 0, 1) := by decide +kernel
theorem dX11_harvest_51 : decode cX11_harvest 51 = .ok (.getfield 40, 3) := by decide +kernel
theorem dX11_harvest_54 : decode cX11_harvest 54 = .ok (.iload_n 1, 1) := by decide +kernel
theorem dX11_harvest_55 : decode cX11_harvest 55 = .ok (.iload_n 2, 1) := by decide +kernel
theorem dX11_harvest_56 : decode cX11_harvest 56 = .ok (.invokevirtual 251, 3) := by decide +kernel
theorem dX11_harvest_59 : decode cX11_harvest 59 = .ok (.aload_n 0, 1) := by decide +kernel
theorem dX11_harvest_60 : decode cX11_harvest 60 = .ok (.getfield 40, 3) := by decide +kernel
theorem dX11_harvest_63 : decode cX11_harvest 63 = .ok (.getfield 248, 3) := by decide +kernel
theorem dX11_harvest_66 : decode cX11_harvest 66 = .ok (.ireturn, 1) := by decide +kernel
set_option maxRecDepth 20000 in
theorem ggX11_foretell_X11_isOutside : GoodIn wsX11_foretell wsX11_isOutside := goodIn_r _ [5] (by decide +kernel) (by decide +kernel)
set_option maxRecDepth 20000 in
theorem gX11_foretell_X11_isOutside : GoodIn wsX11_foretell (va_wsS RX11 60 yX11_isOutside wsX11_isOutside) := goodIn_app (goodIn_of _ (by decide +kernel)) ggX11_foretell_X11_isOutside
set_option maxRecDepth 20000 in
theorem ggX11_foretell_X11_weekNow : GoodIn wsX11_foretell wsX11_weekNow := goodIn_r _ [9, 10, 33, 34, 35, 36, 37, 38, 39, 40, 41, 42, 43, 44] (by decide +kernel) (by decide +kernel)
set_option maxRecDepth 20000 in
theorem gX11_foretell_X11_weekNow : GoodIn wsX11_foretell (wsV RX11 68 RX11 yX11_weekNow wsX11_weekNow) := goodIn_app (goodIn_of _ (by decide +kernel)) ggX11_foretell_X11_weekNow
set_option maxRecDepth 20000 in
theorem ggX11_foretell_X4_firstHunger : GoodIn wsX11_foretell wsX4_firstHunger := goodIn_r _ [15, 16, 17, 18, 19, 14, 20, 21, 22, 23, 24, 25, 26, 27, 28, 29, 30, 31, 32, 45, 46, 47, 48, 49, 50, 51, 52] (by decide +kernel) (by decide +kernel)
set_option maxRecDepth 20000 in
theorem gX11_foretell_X4_firstHunger : GoodIn wsX11_foretell (wsV RX11 254 RX4 yX4_firstHunger wsX4_firstHunger) := goodIn_app (goodIn_of _ (by decide +kernel)) ggX11_foretell_X4_firstHunger
theorem dX11_foretell_0 : decode cX11_foretell 0 = .ok (.iload_n 1, 1) := by decide +kernel
theorem dX11_foretell_1 : decode cX11_foretell 1 = .ok (.iconst 1, 1) := by decide +kernel
theorem dX11_foretell_2 : decode cX11_foretell 2 = .ok (.bipush 100, 2) := by decide +kernel
theorem dX11_foretell_4 : decode cX11_foretell 4 = .ok (.invokestatic 60, 3) := by decide +kernel
theorem dX11_foretell_7 : decode cX11_foretell 7 = .ok (.ifCond .eq 6, 3) := by decide +kernel
theorem dX11_foretell_10 : decode cX11_foretell 10 = .ok (.bipush (-2), 2) := by decide +kernel
theorem dX11_foretell_12 : decode cX11_foretell 12 = .ok (.ireturn, 1) := by decide +kernel
theorem dX11_foretell_13 : decode cX11_foretell 13 = .ok (.aload_n 0, 1) := by decide +kernel
theorem dX11_foretell_14 : decode cX11_foretell 14 = .ok (.getfield 40, 3) := by decide +kernel
theorem dX11_foretell_17 : decode cX11_foretell 17 = .ok (.aload_n 0, 1) := by decide +kernel
theorem dX11_foretell_18 : decode cX11_foretell 18 = .ok (.invokevirtual 68, 3) := by decide +kernel
theorem dX11_foretell_21 : decode cX11_foretell 21 = .ok (.sipush 199, 3) := by decide +kernel
theorem dX11_foretell_24 : decode cX11_foretell 24 = .ok (.iload_n 1, 1) := by decide +kernel
theorem dX11_foretell_25 : decode cX11_foretell 25 = .ok (.invokevirtual 254, 3) := by decide +kernel
theorem dX11_foretell_28 : decode cX11_foretell 28 = .ok (.ireturn, 1) := by decide +kernel
set_option maxRecDepth 20000 in
theorem ggX11_order_X11_weekNow : GoodIn wsX11_order wsX11_weekNow := goodIn_r _ [6, 7, 37, 38, 39, 40, 41, 42, 43, 44, 45, 46, 47, 48] (by decide +kernel) (by decide +kernel)
set_option maxRecDepth 20000 in
theorem gX11_order_X11_weekNow : GoodIn wsX11_order (wsV RX11 68 RX11 yX11_weekNow wsX11_weekNow) := goodIn_app (goodIn_of _ (by decide +kernel)) ggX11_order_X11_weekNow
set_option maxRecDepth 20000 in
theorem ggX11_order_X11_isOutside : GoodIn wsX11_order wsX11_isOutside := goodIn_r _ [10] (by decide +kernel) (by decide +kernel)
set_option maxRecDepth 20000 in
theorem gX11_order_X11_isOutside : GoodIn wsX11_order (va_wsS RX11 60 yX11_isOutside wsX11_isOutside) := goodIn_app (goodIn_of _ (by decide +kernel)) ggX11_order_X11_isOutside
set_option maxRecDepth 20000 in
theorem ggX11_order_X4_greatestRation : GoodIn wsX11_order wsX4_greatestRation := goodIn_r _ [15, 16, 17, 18, 14, 19, 20, 21, 22, 23, 24, 25, 26, 27, 28, 29, 30, 31, 32, 33, 34, 35, 36, 49, 50, 51, 52, 53, 54, 55, 56] (by decide +kernel) (by decide +kernel)
set_option maxRecDepth 20000 in
theorem gX11_order_X4_greatestRation : GoodIn wsX11_order (wsV RX11 258 RX4 yX4_greatestRation wsX4_greatestRation) := goodIn_app (goodIn_of _ (by decide +kernel)) ggX11_order_X4_greatestRation
theorem dX11_order_0 : decode cX11_order 0 = .ok (.iload_n 1, 1) := by decide +kernel
theorem dX11_order_1 : decode cX11_order 1 = .ok (.aload_n 0, 1) := by decide +kernel
theorem dX11_order_2 : decode cX11_order 2 = .ok (.invokevirtual 68, 3) := by decide +kernel
theorem dX11_order_5 : decode cX11_order 5 = .ok (.sipush 199, 3) := by decide +kernel
theorem dX11_order_8 : decode cX11_order 8 = .ok (.invokestatic 60, 3) := by decide +kernel
theorem dX11_order_11 : decode cX11_order 11 = .ok (.ifCond .eq 6, 3) := by decide +kernel
theorem dX11_order_14 : decode cX11_order 14 = .ok (.bipush (-2), 2) := by decide +kernel
theorem dX11_order_16 : decode cX11_order 16 = .ok (.ireturn, 1) := by decide +kernel
theorem dX11_order_17 : decode cX11_order 17 = .ok (.aload_n 0, 1) := by decide +kernel
theorem dX11_order_18 : decode cX11_order 18 = .ok (.getfield 40, 3) := by decide +kernel
theorem dX11_order_21 : decode cX11_order 21 = .ok (.aload_n 0, 1) := by decide +kernel
theorem dX11_order_22 : decode cX11_order 22 = .ok (.invokevirtual 68, 3) := by decide +kernel
theorem dX11_order_25 : decode cX11_order 25 = .ok (.iload_n 1, 1) := by decide +kernel
theorem dX11_order_26 : decode cX11_order 26 = .ok (.invokevirtual 258, 3) := by decide +kernel
theorem dX11_order_29 : decode cX11_order 29 = .ok (.ireturn, 1) := by decide +kernel
set_option maxRecDepth 20000 in
theorem ggX11_told_X11_weekNow : GoodIn wsX11_told wsX11_weekNow := goodIn_r _ [17, 1, 18, 19, 20, 21, 22, 23, 24, 25, 26, 27, 28, 29] (by decide +kernel) (by decide +kernel)
set_option maxRecDepth 20000 in
theorem gX11_told_X11_weekNow : GoodIn wsX11_told (wsV RX11 68 RX11 yX11_weekNow wsX11_weekNow) := goodIn_app (goodIn_of _ (by decide +kernel)) ggX11_told_X11_weekNow
theorem dX11_told_0 : decode cX11_told 0 = .ok (.iload_n 1, 1) := by decide +kernel
theorem dX11_told_1 : decode cX11_told 1 = .ok (.tableswitch 127 0 9 #[55, 60, 69, 74, 82, 90, 95, 103, 111, 119], 55) := by decide +kernel
theorem dX11_told_56 : decode cX11_told 56 = .ok (.aload_n 0, 1) := by decide +kernel
theorem dX11_told_57 : decode cX11_told 57 = .ok (.invokevirtual 68, 3) := by decide +kernel
theorem dX11_told_60 : decode cX11_told 60 = .ok (.ireturn, 1) := by decide +kernel
theorem dX11_told_61 : decode cX11_told 61 = .ok (.aload_n 0, 1) := by decide +kernel
theorem dX11_told_62 : decode cX11_told 62 = .ok (.getfield 64, 3) := by decide +kernel
theorem dX11_told_65 : decode cX11_told 65 = .ok (.sipush 168, 3) := by decide +kernel
theorem dX11_told_68 : decode cX11_told 68 = .ok (.irem, 1) := by decide +kernel
theorem dX11_told_69 : decode cX11_told 69 = .ok (.ireturn, 1) := by decide +kernel
theorem dX11_told_70 : decode cX11_told 70 = .ok (.aload_n 0, 1) := by decide +kernel
theorem dX11_told_71 : decode cX11_told 71 = .ok (.getfield 79, 3) := by decide +kernel
theorem dX11_told_74 : decode cX11_told 74 = .ok (.ireturn, 1) := by decide +kernel
theorem dX11_told_75 : decode cX11_told 75 = .ok (.aload_n 0, 1) := by decide +kernel
theorem dX11_told_76 : decode cX11_told 76 = .ok (.getfield 26, 3) := by decide +kernel
theorem dX11_told_79 : decode cX11_told 79 = .ok (.getfield 136, 3) := by decide +kernel
theorem dX11_told_82 : decode cX11_told 82 = .ok (.ireturn, 1) := by decide +kernel
theorem dX11_told_83 : decode cX11_told 83 = .ok (.aload_n 0, 1) := by decide +kernel
theorem dX11_told_84 : decode cX11_told 84 = .ok (.getfield 10, 3) := by decide +kernel
theorem dX11_told_87 : decode cX11_told 87 = .ok (.getfield 97, 3) := by decide +kernel
theorem dX11_told_90 : decode cX11_told 90 = .ok (.ireturn, 1) := by decide +kernel
theorem dX11_told_91 : decode cX11_told 91 = .ok (.aload_n 0, 1) := by decide +kernel
theorem dX11_told_92 : decode cX11_told 92 = .ok (.getfield 262, 3) := by decide +kernel
theorem dX11_told_95 : decode cX11_told 95 = .ok (.ireturn, 1) := by decide +kernel
theorem dX11_told_96 : decode cX11_told 96 = .ok (.aload_n 0, 1) := by decide +kernel
theorem dX11_told_97 : decode cX11_told 97 = .ok (.getfield 40, 3) := by decide +kernel
theorem dX11_told_100 : decode cX11_told 100 = .ok (.getfield 235, 3) := by decide +kernel
theorem dX11_told_103 : decode cX11_told 103 = .ok (.ireturn, 1) := by decide +kernel
theorem dX11_told_104 : decode cX11_told 104 = .ok (.aload_n 0, 1) := by decide +kernel
theorem dX11_told_105 : decode cX11_told 105 = .ok (.getfield 40, 3) := by decide +kernel
theorem dX11_told_108 : decode cX11_told 108 = .ok (.getfield 265, 3) := by decide +kernel
theorem dX11_told_111 : decode cX11_told 111 = .ok (.ireturn, 1) := by decide +kernel
theorem dX11_told_112 : decode cX11_told 112 = .ok (.aload_n 0, 1) := by decide +kernel
theorem dX11_told_113 : decode cX11_told 113 = .ok (.getfield 40, 3) := by decide +kernel
theorem dX11_told_116 : decode cX11_told 116 = .ok (.getfield 245, 3) := by decide +kernel
theorem dX11_told_119 : decode cX11_told 119 = .ok (.ireturn, 1) := by decide +kernel
theorem dX11_told_120 : decode cX11_told 120 = .ok (.aload_n 0, 1) := by decide +kernel
theorem dX11_told_121 : decode cX11_told 121 = .ok (.getfield 40, 3) := by decide +kernel
theorem dX11_told_124 : decode cX11_told 124 = .ok (.getfield 248, 3) := by decide +kernel
theorem dX11_told_127 : decode cX11_told 127 = .ok (.ireturn, 1) := by decide +kernel
theorem dX11_told_128 : decode cX11_told 128 = .ok (.bipush (-2), 2) := by decide +kernel
theorem dX11_told_130 : decode cX11_told 130 = .ok (.ireturn, 1) := by decide +kernel
theorem dX11_isOutside_0 : decode cX11_isOutside 0 = .ok (.iload_n 0, 1) := by decide +kernel
theorem dX11_isOutside_1 : decode cX11_isOutside 1 = .ok (.iload_n 1, 1) := by decide +kernel
theorem dX11_isOutside_2 : decode cX11_isOutside 2 = .ok (.if_icmp .lt 8, 3) := by decide +kernel
theorem dX11_isOutside_5 : decode cX11_isOutside 5 = .ok (.iload_n 0, 1) := by decide +kernel
theorem dX11_isOutside_6 : decode cX11_isOutside 6 = .ok (.iload_n 2, 1) := by decide +kernel
theorem dX11_isOutside_7 : decode cX11_isOutside 7 = .ok (.if_icmp .le 7, 3) := by decide +kernel
theorem dX11_isOutside_10 : decode cX11_isOutside 10 = .ok (.iconst 1, 1) := by decide +kernel
theorem dX11_isOutside_11 : decode cX11_isOutside 11 = .ok (.goto 4, 3) := by decide +kernel
theorem dX11_isOutside_14 : decode cX11_isOutside 14 = .ok (.iconst 0, 1) := by decide +kernel
theorem dX11_isOutside_15 : decode cX11_isOutside 15 = .ok (.ireturn, 1) := by decide +kernel
theorem dX11_weekNow_0 : decode cX11_weekNow 0 = .ok (.aload_n 0, 1) := by decide +kernel
theorem dX11_weekNow_1 : decode cX11_weekNow 1 = .ok (.getfield 64, 3) := by decide +kernel
theorem dX11_weekNow_4 : decode cX11_weekNow 4 = .ok (.sipush 168, 3) := by decide +kernel
theorem dX11_weekNow_7 : decode cX11_weekNow 7 = .ok (.idiv, 1) := by decide +kernel
theorem dX11_weekNow_8 : decode cX11_weekNow 8 = .ok (.ireturn, 1) := by decide +kernel
theorem dX11_bakerAt_0 : decode cX11_bakerAt 0 = .ok (.iload_n 1, 1) := by decide +kernel
theorem dX11_bakerAt_1 : decode cX11_bakerAt 1 = .ok (.ifCond .lt 11, 3) := by decide +kernel
theorem dX11_bakerAt_4 : decode cX11_bakerAt 4 = .ok (.iload_n 1, 1) := by decide +kernel
theorem dX11_bakerAt_5 : decode cX11_bakerAt 5 = .ok (.aload_n 0, 1) := by decide +kernel
theorem dX11_bakerAt_6 : decode cX11_bakerAt 6 = .ok (.getfield 79, 3) := by decide +kernel
theorem dX11_bakerAt_9 : decode cX11_bakerAt 9 = .ok (.if_icmp .lt 7, 3) := by decide +kernel
theorem dX11_bakerAt_12 : decode cX11_bakerAt 12 = .ok (.aconst_null, 1) := by decide +kernel
theorem dX11_bakerAt_13 : decode cX11_bakerAt 13 = .ok (.goto 9, 3) := by decide +kernel
theorem dX11_bakerAt_16 : decode cX11_bakerAt 16 = .ok (.aload_n 0, 1) := by decide +kernel
theorem dX11_bakerAt_17 : decode cX11_bakerAt 17 = .ok (.getfield 46, 3) := by decide +kernel
theorem dX11_bakerAt_20 : decode cX11_bakerAt 20 = .ok (.iload_n 1, 1) := by decide +kernel
theorem dX11_bakerAt_21 : decode cX11_bakerAt 21 = .ok (.aaload, 1) := by decide +kernel
theorem dX11_bakerAt_22 : decode cX11_bakerAt 22 = .ok (.areturn, 1) := by decide +kernel
set_option maxRecDepth 20000 in
theorem ggX11_toMill_X2_queueFlour : GoodIn wsX11_toMill wsX2_queueFlour := goodIn_r _ [14, 15, 16, 71, 72, 73, 74, 75, 76, 77] (by decide +kernel) (by decide +kernel)
set_option maxRecDepth 20000 in
theorem gX11_toMill_X2_queueFlour : GoodIn wsX11_toMill (wsV RX11 270 RX2 yX2_queueFlour wsX2_queueFlour) := goodIn_app (goodIn_of _ (by decide +kernel)) ggX11_toMill_X2_queueFlour
set_option maxRecDepth 20000 in
theorem ggX11_toMill_X11_bakerAt : GoodIn wsX11_toMill wsX11_bakerAt := goodIn_r _ [21, 22, 23, 24, 25, 26, 27, 28, 29, 30, 31, 32, 33, 34, 35] (by decide +kernel) (by decide +kernel)
set_option maxRecDepth 20000 in
theorem gX11_toMill_X11_bakerAt : GoodIn wsX11_toMill (wsV RX11 86 RX11 yX11_bakerAt wsX11_bakerAt) := goodIn_app (goodIn_of _ (by decide +kernel)) ggX11_toMill_X11_bakerAt
theorem dX11_toMill_0 : decode cX11_toMill 0 = .ok (.aload_n 0, 1) := by decide +kernel
theorem dX11_toMill_1 : decode cX11_toMill 1 = .ok (.getfield 50, 3) := by decide +kernel
theorem dX11_toMill_4 : decode cX11_toMill 4 = .ok (.ifCond .le 15, 3) := by decide +kernel
theorem dX11_toMill_7 : decode cX11_toMill 7 = .ok (.aload_n 1, 1) := by decide +kernel
theorem dX11_toMill_8 : decode cX11_toMill 8 = .ok (.getfield 268, 3) := by decide +kernel
theorem dX11_toMill_11 : decode cX11_toMill 11 = .ok (.aload_n 0, 1) := by decide +kernel
theorem dX11_toMill_12 : decode cX11_toMill 12 = .ok (.getfield 50, 3) := by decide +kernel
theorem dX11_toMill_15 : decode cX11_toMill 15 = .ok (.idiv, 1) := by decide +kernel
theorem dX11_toMill_16 : decode cX11_toMill 16 = .ok (.goto 4, 3) := by decide +kernel
theorem dX11_toMill_19 : decode cX11_toMill 19 = .ok (.iconst 0, 1) := by decide +kernel
theorem dX11_toMill_20 : decode cX11_toMill 20 = .ok (.istore_n 2, 1) := by decide +kernel
theorem dX11_toMill_21 : decode cX11_toMill 21 = .ok (.aload_n 1, 1) := by decide +kernel
theorem dX11_toMill_22 : decode cX11_toMill 22 = .ok (.iconst 1, 1) := by decide +kernel
theorem dX11_toMill_23 : decode cX11_toMill 23 = .ok (.putfield 121, 3) := by decide +kernel
theorem dX11_toMill_26 : decode cX11_toMill 26 = .ok (.aload_n 1, 1) := by decide +kernel
theorem dX11_toMill_27 : decode cX11_toMill 27 = .ok (.aload_n 1, 1) := by decide +kernel
theorem dX11_toMill_28 : decode cX11_toMill 28 = .ok (.getfield 268, 3) := by decide +kernel
theorem dX11_toMill_31 : decode cX11_toMill 31 = .ok (.iload_n 2, 1) := by decide +kernel
theorem dX11_toMill_32 : decode cX11_toMill 32 = .ok (.isub, 1) := by decide +kernel
theorem dX11_toMill_33 : decode cX11_toMill 33 = .ok (.putfield 269, 3) := by decide +kernel
theorem dX11_toMill_36 : decode cX11_toMill 36 = .ok (.aload_n 0, 1) := by decide +kernel
theorem dX11_toMill_37 : decode cX11_toMill 37 = .ok (.getfield 10, 3) := by decide +kernel
theorem dX11_toMill_40 : decode cX11_toMill 40 = .ok (.aload_n 1, 1) := by decide +kernel
theorem dX11_toMill_41 : decode cX11_toMill 41 = .ok (.invokevirtual 270, 3) := by decide +kernel
theorem dX11_toMill_44 : decode cX11_toMill 44 = .ok (.aload_n 0, 1) := by decide +kernel
theorem dX11_toMill_45 : decode cX11_toMill 45 = .ok (.aload_n 1, 1) := by decide +kernel
theorem dX11_toMill_46 : decode cX11_toMill 46 = .ok (.getfield 273, 3) := by decide +kernel
theorem dX11_toMill_49 : decode cX11_toMill 49 = .ok (.invokevirtual 86, 3) := by decide +kernel
theorem dX11_toMill_52 : decode cX11_toMill 52 = .ok (.astore_n 3, 1) := by decide +kernel
theorem dX11_toMill_53 : decode cX11_toMill 53 = .ok (.aload_n 3, 1) := by decide +kernel
theorem dX11_toMill_54 : decode cX11_toMill 54 = .ok (.ifnull 16, 3) := by decide +kernel
theorem dX11_toMill_57 : decode cX11_toMill 57 = .ok (.aload_n 3, 1) := by decide +kernel
theorem dX11_toMill_58 : decode cX11_toMill 58 = .ok (.dup, 1) := by decide +kernel
theorem dX11_toMill_59 : decode cX11_toMill 59 = .ok (.getfield 167, 3) := by decide +kernel
theorem dX11_toMill_62 : decode cX11_toMill 62 = .ok (.aload_n 1, 1) := by decide +kernel
theorem dX11_toMill_63 : decode cX11_toMill 63 = .ok (.getfield 269, 3) := by decide +kernel
theorem dX11_toMill_66 : decode cX11_toMill 66 = .ok (.iadd, 1) := by decide +kernel
theorem dX11_toMill_67 : decode cX11_toMill 67 = .ok (.putfield 167, 3) := by decide +kernel
theorem dX11_toMill_70 : decode cX11_toMill 70 = .ok (.aload_n 0, 1) := by decide +kernel
theorem dX11_toMill_71 : decode cX11_toMill 71 = .ok (.dup, 1) := by decide +kernel
theorem dX11_toMill_72 : decode cX11_toMill 72 = .ok (.getfield 262, 3) := by decide +kernel
theorem dX11_toMill_75 : decode cX11_toMill 75 = .ok (.iload_n 2, 1) := by decide +kernel
theorem dX11_toMill_76 : decode cX11_toMill 76 = .ok (.iadd, 1) := by decide +kernel
theorem dX11_toMill_77 : decode cX11_toMill 77 = .ok (.putfield 262, 3) := by decide +kernel
theorem dX11_toMill_80 : decode cX11_toMill 80 = .ok (.iload_n 2, 1) := by decide +kernel
theorem dX11_toMill_81 : decode cX11_toMill 81 = .ok (.ireturn, 1) := by decide +kernel
set_option maxRecDepth 20000 in
theorem ggX11_dueBy_X7_priceOf : GoodIn wsX11_dueBy wsX7_priceOf := goodIn_r _ [6, 7, 8, 9, 10, 11, 12, 38, 39] (by decide +kernel) (by decide +kernel)
set_option maxRecDepth 20000 in
theorem gX11_dueBy_X7_priceOf : GoodIn wsX11_dueBy (wsV RX11 129 RX7 yX7_priceOf wsX7_priceOf) := goodIn_app (goodIn_of _ (by decide +kernel)) ggX11_dueBy_X7_priceOf
set_option maxRecDepth 20000 in
theorem ggX11_dueBy_X9_loaf : GoodIn wsX11_dueBy wsX9_loaf := goodIn_r _ [17, 18, 19, 20, 21, 16, 22, 23, 24, 25, 40, 41, 42, 43, 44, 45, 46] (by decide +kernel) (by decide +kernel)
set_option maxRecDepth 20000 in
theorem gX11_dueBy_X9_loaf : GoodIn wsX11_dueBy (wsV RX11 274 RX9 yX9_loaf wsX9_loaf) := goodIn_app (goodIn_of _ (by decide +kernel)) ggX11_dueBy_X9_loaf
theorem dX11_dueBy_0 : decode cX11_dueBy 0 = .ok (.aload_n 1, 1) := by decide +kernel
theorem dX11_dueBy_1 : decode cX11_dueBy 1 = .ok (.ifnonnull 7, 3) := by decide +kernel
theorem dX11_dueBy_4 : decode cX11_dueBy 4 = .ok (.iconst 0, 1) := by decide +kernel
theorem dX11_dueBy_5 : decode cX11_dueBy 5 = .ok (.goto 18, 3) := by decide +kernel
theorem dX11_dueBy_8 : decode cX11_dueBy 8 = .ok (.aload_n 1, 1) := by decide +kernel
theorem dX11_dueBy_9 : decode cX11_dueBy 9 = .ok (.iload_n 2, 1) := by decide +kernel
theorem dX11_dueBy_10 : decode cX11_dueBy 10 = .ok (.aload_n 0, 1) := by decide +kernel
theorem dX11_dueBy_11 : decode cX11_dueBy 11 = .ok (.getfield 19, 3) := by decide +kernel
theorem dX11_dueBy_14 : decode cX11_dueBy 14 = .ok (.iload_n 3, 1) := by decide +kernel
theorem dX11_dueBy_15 : decode cX11_dueBy 15 = .ok (.iconst 1, 1) := by decide +kernel
theorem dX11_dueBy_16 : decode cX11_dueBy 16 = .ok (.isub, 1) := by decide +kernel
theorem dX11_dueBy_17 : decode cX11_dueBy 17 = .ok (.invokevirtual 129, 3) := by decide +kernel
theorem dX11_dueBy_20 : decode cX11_dueBy 20 = .ok (.invokevirtual 274, 3) := by decide +kernel
theorem dX11_dueBy_23 : decode cX11_dueBy 23 = .ok (.ireturn, 1) := by decide +kernel
set_option maxRecDepth 20000 in
theorem ggX11_weighLatest_X3_week : GoodIn wsX11_weighLatest wsX3_week := goodIn_r _ [22, 23, 95, 96, 97, 98, 99, 100, 101, 102, 103, 104, 105, 106, 107, 108, 109, 110, 111, 112, 113, 114, 115, 116, 117, 118, 119, 120, 121] (by decide +kernel) (by decide +kernel)
set_option maxRecDepth 20000 in
theorem gX11_weighLatest_X3_week_u277X1 : GoodIn wsX11_weighLatest (va_wsU RX11 277 RX1 "BreadLaw$Entry" ⟨"BreadLaw$Batch", "week", "()I"⟩ yX3_week wsX3_week) := goodIn_app (goodIn_of _ (by decide +kernel)) ggX11_weighLatest_X3_week
set_option maxRecDepth 20000 in
theorem ggX11_weighLatest_X5_ruling : GoodIn wsX11_weighLatest wsX5_ruling := goodIn_r _ [28, 29, 30, 31, 122, 123, 88, 89, 90, 91, 92, 93, 94] (by decide +kernel) (by decide +kernel)
set_option maxRecDepth 20000 in
theorem gX11_weighLatest_X5_ruling : GoodIn wsX11_weighLatest (wsV RX11 157 RX5 yX5_ruling wsX5_ruling) := goodIn_app (goodIn_of _ (by decide +kernel)) ggX11_weighLatest_X5_ruling
set_option maxRecDepth 20000 in
theorem ggX11_weighLatest_X11_lessened : GoodIn wsX11_weighLatest wsX11_lessened := goodIn_r _ [35, 36, 37, 38, 39] (by decide +kernel) (by decide +kernel)
set_option maxRecDepth 20000 in
theorem gX11_weighLatest_X11_lessened : GoodIn wsX11_weighLatest (va_wsS RX11 291 yX11_lessened wsX11_lessened) := goodIn_app (goodIn_of _ (by decide +kernel)) ggX11_weighLatest_X11_lessened
set_option maxRecDepth 20000 in
theorem ggX11_weighLatest_X11_dueBy : GoodIn wsX11_weighLatest wsX11_dueBy := goodIn_r _ [43, 44, 45, 46, 47, 48, 49, 50, 51, 38, 52, 53, 54, 55, 56, 57, 58, 59, 60, 61, 62, 63, 64, 65, 66, 67, 76, 77, 78, 79, 80, 81, 82, 83, 84, 85, 86, 87, 124, 125, 88, 89, 90, 91, 92, 93, 94] (by decide +kernel) (by decide +kernel)
set_option maxRecDepth 20000 in
theorem gX11_weighLatest_X11_dueBy : GoodIn wsX11_weighLatest (wsV RX11 160 RX11 yX11_dueBy wsX11_dueBy) := goodIn_app (goodIn_of _ (by decide +kernel)) ggX11_weighLatest_X11_dueBy
theorem dX11_weighLatest_0 : decode cX11_weighLatest 0 = .ok (.aload_n 2, 1) := by decide +kernel
theorem dX11_weighLatest_1 : decode cX11_weighLatest 1 = .ok (.getfield 180, 3) := by decide +kernel
theorem dX11_weighLatest_4 : decode cX11_weighLatest 4 = .ok (.astore_n 3, 1) := by decide +kernel
theorem dX11_weighLatest_5 : decode cX11_weighLatest 5 = .ok (.aload_n 3, 1) := by decide +kernel
theorem dX11_weighLatest_6 : decode cX11_weighLatest 6 = .ok (.ifnonnull 4, 3) := by decide +kernel
theorem dX11_weighLatest_9 : decode cX11_weighLatest 9 = .ok (.return_, 1) := by decide +kernel
theorem dX11_weighLatest_10 : decode cX11_weighLatest 10 = .ok (.aload_n 0, 1) := by decide +kernel
theorem dX11_weighLatest_11 : decode cX11_weighLatest 11 = .ok (.getfield 26, 3) := by decide +kernel
theorem dX11_weighLatest_14 : decode cX11_weighLatest 14 = .ok (.aload_n 3, 1) := by decide +kernel
theorem dX11_weighLatest_15 : decode cX11_weighLatest 15 = .ok (.invokevirtual 277, 3) := by decide +kernel
theorem dX11_weighLatest_18 : decode cX11_weighLatest 18 = .ok (.invokevirtual 157, 3) := by decide +kernel
theorem dX11_weighLatest_21 : decode cX11_weighLatest 21 = .ok (.astore 4, 2) := by decide +kernel
theorem dX11_weighLatest_23 : decode cX11_weighLatest 23 = .ok (.aload 4, 2) := by decide +kernel
theorem dX11_weighLatest_25 : decode cX11_weighLatest 25 = .ok (.ifnonnull 7, 3) := by decide +kernel
theorem dX11_weighLatest_28 : decode cX11_weighLatest 28 = .ok (.iconst 0, 1) := by decide +kernel
theorem dX11_weighLatest_29 : decode cX11_weighLatest 29 = .ok (.goto 8, 3) := by decide +kernel
theorem dX11_weighLatest_32 : decode cX11_weighLatest 32 = .ok (.aload 4, 2) := by decide +kernel
theorem dX11_weighLatest_34 : decode cX11_weighLatest 34 = .ok (.getfield 278, 3) := by decide +kernel
theorem dX11_weighLatest_37 : decode cX11_weighLatest 37 = .ok (.istore 5, 2) := by decide +kernel
theorem dX11_weighLatest_39 : decode cX11_weighLatest 39 = .ok (.aload_n 1, 1) := by decide +kernel
theorem dX11_weighLatest_40 : decode cX11_weighLatest 40 = .ok (.aload_n 3, 1) := by decide +kernel
theorem dX11_weighLatest_41 : decode cX11_weighLatest 41 = .ok (.getfield 184, 3) := by decide +kernel
theorem dX11_weighLatest_44 : decode cX11_weighLatest 44 = .ok (.putfield 281, 3) := by decide +kernel
theorem dX11_weighLatest_47 : decode cX11_weighLatest 47 = .ok (.aload_n 1, 1) := by decide +kernel
theorem dX11_weighLatest_48 : decode cX11_weighLatest 48 = .ok (.aload_n 0, 1) := by decide +kernel
theorem dX11_weighLatest_49 : decode cX11_weighLatest 49 = .ok (.getfield 64, 3) := by decide +kernel
theorem dX11_weighLatest_52 : decode cX11_weighLatest 52 = .ok (.aload_n 3, 1) := by decide +kernel
theorem dX11_weighLatest_53 : decode cX11_weighLatest 53 = .ok (.getfield 284, 3) := by decide +kernel
theorem dX11_weighLatest_56 : decode cX11_weighLatest 56 = .ok (.isub, 1) := by decide +kernel
theorem dX11_weighLatest_57 : decode cX11_weighLatest 57 = .ok (.putfield 285, 3) := by decide +kernel
theorem dX11_weighLatest_60 : decode cX11_weighLatest 60 = .ok (.aload_n 1, 1) := by decide +kernel
theorem dX11_weighLatest_61 : decode cX11_weighLatest 61 = .ok (.aload_n 3, 1) := by decide +kernel
theorem dX11_weighLatest_62 : decode cX11_weighLatest 62 = .ok (.getfield 288, 3) := by decide +kernel
theorem dX11_weighLatest_65 : decode cX11_weighLatest 65 = .ok (.aload_n 0, 1) := by decide +kernel
theorem dX11_weighLatest_66 : decode cX11_weighLatest 66 = .ok (.getfield 54, 3) := by decide +kernel
theorem dX11_weighLatest_69 : decode cX11_weighLatest 69 = .ok (.aload_n 1, 1) := by decide +kernel
theorem dX11_weighLatest_70 : decode cX11_weighLatest 70 = .ok (.getfield 285, 3) := by decide +kernel
theorem dX11_weighLatest_73 : decode cX11_weighLatest 73 = .ok (.invokestatic 291, 3) := by decide +kernel
theorem dX11_weighLatest_76 : decode cX11_weighLatest 76 = .ok (.putfield 294, 3) := by decide +kernel
theorem dX11_weighLatest_79 : decode cX11_weighLatest 79 = .ok (.aload_n 1, 1) := by decide +kernel
theorem dX11_weighLatest_80 : decode cX11_weighLatest 80 = .ok (.aload_n 0, 1) := by decide +kernel
theorem dX11_weighLatest_81 : decode cX11_weighLatest 81 = .ok (.aload 4, 2) := by decide +kernel
theorem dX11_weighLatest_83 : decode cX11_weighLatest 83 = .ok (.aload_n 3, 1) := by decide +kernel
theorem dX11_weighLatest_84 : decode cX11_weighLatest 84 = .ok (.getfield 297, 3) := by decide +kernel
theorem dX11_weighLatest_87 : decode cX11_weighLatest 87 = .ok (.aload_n 3, 1) := by decide +kernel
theorem dX11_weighLatest_88 : decode cX11_weighLatest 88 = .ok (.invokevirtual 277, 3) := by decide +kernel
theorem dX11_weighLatest_91 : decode cX11_weighLatest 91 = .ok (.invokevirtual 160, 3) := by decide +kernel
theorem dX11_weighLatest_94 : decode cX11_weighLatest 94 = .ok (.iload 5, 2) := by decide +kernel
theorem dX11_weighLatest_96 : decode cX11_weighLatest 96 = .ok (.aload_n 1, 1) := by decide +kernel
theorem dX11_weighLatest_97 : decode cX11_weighLatest 97 = .ok (.getfield 285, 3) := by decide +kernel
theorem dX11_weighLatest_100 : decode cX11_weighLatest 100 = .ok (.invokestatic 291, 3) := by decide +kernel
theorem dX11_weighLatest_103 : decode cX11_weighLatest 103 = .ok (.putfield 300, 3) := by decide +kernel
theorem dX11_weighLatest_106 : decode cX11_weighLatest 106 = .ok (.aload_n 1, 1) := by decide +kernel
theorem dX11_weighLatest_107 : decode cX11_weighLatest 107 = .ok (.aload_n 1, 1) := by decide +kernel
theorem dX11_weighLatest_108 : decode cX11_weighLatest 108 = .ok (.getfield 294, 3) := by decide +kernel
theorem dX11_weighLatest_111 : decode cX11_weighLatest 111 = .ok (.aload_n 1, 1) := by decide +kernel
theorem dX11_weighLatest_112 : decode cX11_weighLatest 112 = .ok (.getfield 300, 3) := by decide +kernel
theorem dX11_weighLatest_115 : decode cX11_weighLatest 115 = .ok (.if_icmp .ge 7, 3) := by decide +kernel
theorem dX11_weighLatest_118 : decode cX11_weighLatest 118 = .ok (.iconst 1, 1) := by decide +kernel
theorem dX11_weighLatest_119 : decode cX11_weighLatest 119 = .ok (.goto 4, 3) := by decide +kernel
theorem dX11_weighLatest_122 : decode cX11_weighLatest 122 = .ok (.iconst 0, 1) := by decide +kernel
theorem dX11_weighLatest_123 : decode cX11_weighLatest 123 = .ok (.putfield 203, 3) := by decide +kernel
theorem dX11_weighLatest_126 : decode cX11_weighLatest 126 = .ok (.return_, 1) := by decide +kernel
theorem dX11_lessened_0 : decode cX11_lessened 0 = .ok (.iconst 0, 1) := by decide +kernel
theorem dX11_lessened_1 : decode cX11_lessened 1 = .ok (.iload_n 0, 1) := by decide +kernel
theorem dX11_lessened_2 : decode cX11_lessened 2 = .ok (.sipush 1000, 3) := by decide +kernel
theorem dX11_lessened_5 : decode cX11_lessened 5 = .ok (.iload_n 1, 1) := by decide +kernel
theorem dX11_lessened_6 : decode cX11_lessened 6 = .ok (.iload_n 2, 1) := by decide +kernel
theorem dX11_lessened_7 : decode cX11_lessened 7 = .ok (.imul, 1) := by decide +kernel
theorem dX11_lessened_8 : decode cX11_lessened 8 = .ok (.isub, 1) := by decide +kernel
theorem dX11_lessened_9 : decode cX11_lessened 9 = .ok (.imul, 1) := by decide +kernel
theorem dX11_lessened_10 : decode cX11_lessened 10 = .ok (.sipush 1000, 3) := by decide +kernel
theorem dX11_lessened_13 : decode cX11_lessened 13 = .ok (.idiv, 1) := by decide +kernel
theorem dX11_lessened_14 : decode cX11_lessened 14 = .ok (.invokestatic 303, 3) := by decide +kernel
theorem dX11_lessened_17 : decode cX11_lessened 17 = .ok (.ireturn, 1) := by decide +kernel
set_option maxRecDepth 20000 in
theorem ggX11_punish_X11_weekNow : GoodIn wsX11_punish wsX11_weekNow := goodIn_r _ [14, 15, 24, 25, 26, 27, 28, 29, 30, 31, 32, 33, 34, 35] (by decide +kernel) (by decide +kernel)
set_option maxRecDepth 20000 in
theorem gX11_punish_X11_weekNow : GoodIn wsX11_punish (wsV RX11 68 RX11 yX11_weekNow wsX11_weekNow) := goodIn_app (goodIn_of _ (by decide +kernel)) ggX11_punish_X11_weekNow
theorem dX11_punish_0 : decode cX11_punish 0 = .ok (.aload_n 2, 1) := by decide +kernel
theorem dX11_punish_1 : decode cX11_punish 1 = .ok (.dup, 1) := by decide +kernel
theorem dX11_punish_2 : decode cX11_punish 2 = .ok (.getfield 308, 3) := by decide +kernel
theorem dX11_punish_5 : decode cX11_punish 5 = .ok (.iconst 1, 1) := by decide +kernel
theorem dX11_punish_6 : decode cX11_punish 6 = .ok (.iadd, 1) := by decide +kernel
theorem dX11_punish_7 : decode cX11_punish 7 = .ok (.putfield 308, 3) := by decide +kernel
theorem dX11_punish_10 : decode cX11_punish 10 = .ok (.aload_n 1, 1) := by decide +kernel
theorem dX11_punish_11 : decode cX11_punish 11 = .ok (.aload_n 0, 1) := by decide +kernel
theorem dX11_punish_12 : decode cX11_punish 12 = .ok (.getfield 57, 3) := by decide +kernel
theorem dX11_punish_15 : decode cX11_punish 15 = .ok (.aload_n 2, 1) := by decide +kernel
theorem dX11_punish_16 : decode cX11_punish 16 = .ok (.getfield 308, 3) := by decide +kernel
theorem dX11_punish_19 : decode cX11_punish 19 = .ok (.iconst 4, 1) := by decide +kernel
theorem dX11_punish_20 : decode cX11_punish 20 = .ok (.invokestatic 311, 3) := by decide +kernel
theorem dX11_punish_23 : decode cX11_punish 23 = .ok (.imul, 1) := by decide +kernel
theorem dX11_punish_24 : decode cX11_punish 24 = .ok (.putfield 314, 3) := by decide +kernel
theorem dX11_punish_27 : decode cX11_punish 27 = .ok (.aload_n 2, 1) := by decide +kernel
theorem dX11_punish_28 : decode cX11_punish 28 = .ok (.dup, 1) := by decide +kernel
theorem dX11_punish_29 : decode cX11_punish 29 = .ok (.getfield 315, 3) := by decide +kernel
theorem dX11_punish_32 : decode cX11_punish 32 = .ok (.aload_n 1, 1) := by decide +kernel
theorem dX11_punish_33 : decode cX11_punish 33 = .ok (.getfield 314, 3) := by decide +kernel
theorem dX11_punish_36 : decode cX11_punish 36 = .ok (.iadd, 1) := by decide +kernel
theorem dX11_punish_37 : decode cX11_punish 37 = .ok (.putfield 315, 3) := by decide +kernel
theorem dX11_punish_40 : decode cX11_punish 40 = .ok (.aload_n 2, 1) := by decide +kernel
theorem dX11_punish_41 : decode cX11_punish 41 = .ok (.getfield 308, 3) := by decide +kernel
theorem dX11_punish_44 : decode cX11_punish 44 = .ok (.iconst 4, 1) := by decide +kernel
theorem dX11_punish_45 : decode cX11_punish 45 = .ok (.if_icmp .lt 13, 3) := by decide +kernel
theorem dX11_punish_48 : decode cX11_punish 48 = .ok (.aload_n 2, 1) := by decide +kernel
theorem dX11_punish_49 : decode cX11_punish 49 = .ok (.aload_n 0, 1) := by decide +kernel
theorem dX11_punish_50 : decode cX11_punish 50 = .ok (.invokevirtual 68, 3) := by decide +kernel
theorem dX11_punish_53 : decode cX11_punish 53 = .ok (.iconst 2, 1) := by decide +kernel
theorem dX11_punish_54 : decode cX11_punish 54 = .ok (.iadd, 1) := by decide +kernel
theorem dX11_punish_55 : decode cX11_punish 55 = .ok (.putfield 164, 3) := by decide +kernel
theorem dX11_punish_58 : decode cX11_punish 58 = .ok (.return_, 1) := by decide +kernel
theorem dX12_init_0 : decode cX12_init 0 = .ok (.aload_n 0, 1) := by decide +kernel
theorem dX12_init_1 : decode cX12_init 1 = .ok (.invokespecial 1, 3) := by decide +kernel
theorem dX12_init_4 : decode cX12_init 4 = .ok (.aload_n 0, 1) := by decide +kernel
theorem dX12_init_5 : decode cX12_init 5 = .ok (.sipush 200, 3) := by decide +kernel
theorem dX12_init_8 : decode cX12_init 8 = .ok (.newarray .int, 2) := by decide +kernel
theorem dX12_init_10 : decode cX12_init 10 = .ok (.putfield 7, 3) := by decide +kernel
theorem dX12_init_13 : decode cX12_init 13 = .ok (.aload_n 0, 1) := by decide +kernel
theorem dX12_init_14 : decode cX12_init 14 = .ok (.sipush 200, 3) := by decide +kernel
theorem dX12_init_17 : decode cX12_init 17 = .ok (.newarray .int, 2) := by decide +kernel
theorem dX12_init_19 : decode cX12_init 19 = .ok (.putfield 13, 3) := by decide +kernel
theorem dX12_init_22 : decode cX12_init 22 = .ok (.aload_n 0, 1) := by decide +kernel
theorem dX12_init_23 : decode cX12_init 23 = .ok (.sipush 200, 3) := by decide +kernel
theorem dX12_init_26 : decode cX12_init 26 = .ok (.newarray .int, 2) := by decide +kernel
theorem dX12_init_28 : decode cX12_init 28 = .ok (.putfield 16, 3) := by decide +kernel
theorem dX12_init_31 : decode cX12_init 31 = .ok (.aload_n 0, 1) := by decide +kernel
theorem dX12_init_32 : decode cX12_init 32 = .ok (.sipush 200, 3) := by decide +kernel
theorem dX12_init_35 : decode cX12_init 35 = .ok (.newarray .int, 2) := by decide +kernel
theorem dX12_init_37 : decode cX12_init 37 = .ok (.putfield 19, 3) := by decide +kernel
theorem dX12_init_40 : decode cX12_init 40 = .ok (.aload_n 0, 1) := by decide +kernel
theorem dX12_init_41 : decode cX12_init 41 = .ok (.sipush 200, 3) := by decide +kernel
theorem dX12_init_44 : decode cX12_init 44 = .ok (.newarray .int, 2) := by decide +kernel
theorem dX12_init_46 : decode cX12_init 46 = .ok (.putfield 22, 3) := by decide +kernel
theorem dX12_init_49 : decode cX12_init 49 = .ok (.aload_n 0, 1) := by decide +kernel
theorem dX12_init_50 : decode cX12_init 50 = .ok (.sipush 200, 3) := by decide +kernel
theorem dX12_init_53 : decode cX12_init 53 = .ok (.newarray .int, 2) := by decide +kernel
theorem dX12_init_55 : decode cX12_init 55 = .ok (.putfield 25, 3) := by decide +kernel
theorem dX12_init_58 : decode cX12_init 58 = .ok (.aload_n 0, 1) := by decide +kernel
theorem dX12_init_59 : decode cX12_init 59 = .ok (.sipush 200, 3) := by decide +kernel
theorem dX12_init_62 : decode cX12_init 62 = .ok (.newarray .boolean, 2) := by decide +kernel
theorem dX12_init_64 : decode cX12_init 64 = .ok (.putfield 28, 3) := by decide +kernel
theorem dX12_init_67 : decode cX12_init 67 = .ok (.aload_n 0, 1) := by decide +kernel
theorem dX12_init_68 : decode cX12_init 68 = .ok (.sipush 200, 3) := by decide +kernel
theorem dX12_init_71 : decode cX12_init 71 = .ok (.newarray .int, 2) := by decide +kernel
theorem dX12_init_73 : decode cX12_init 73 = .ok (.putfield 32, 3) := by decide +kernel
theorem dX12_init_76 : decode cX12_init 76 = .ok (.aload_n 0, 1) := by decide +kernel
theorem dX12_init_77 : decode cX12_init 77 = .ok (.sipush 200, 3) := by decide +kernel
theorem dX12_init_80 : decode cX12_init 80 = .ok (.newarray .int, 2) := by decide +kernel
theorem dX12_init_82 : decode cX12_init 82 = .ok (.putfield 35, 3) := by decide +kernel
theorem dX12_init_85 : decode cX12_init 85 = .ok (.aload_n 0, 1) := by decide +kernel
theorem dX12_init_86 : decode cX12_init 86 = .ok (.bipush 16, 2) := by decide +kernel
theorem dX12_init_88 : decode cX12_init 88 = .ok (.putfield 38, 3) := by decide +kernel
theorem dX12_init_91 : decode cX12_init 91 = .ok (.aload_n 0, 1) := by decide +kernel
theorem dX12_init_92 : decode cX12_init 92 = .ok (.sipush 200, 3) := by decide +kernel
theorem dX12_init_95 : decode cX12_init 95 = .ok (.newarray .int, 2) := by decide +kernel
theorem dX12_init_97 : decode cX12_init 97 = .ok (.putfield 42, 3) := by decide +kernel
theorem dX12_init_100 : decode cX12_init 100 = .ok (.aload_n 0, 1) := by decide +kernel
theorem dX12_init_101 : decode cX12_init 101 = .ok (.sipush 200, 3) := by decide +kernel
theorem dX12_init_104 : decode cX12_init 104 = .ok (.newarray .int, 2) := by decide +kernel
theorem dX12_init_106 : decode cX12_init 106 = .ok (.putfield 45, 3) := by decide +kernel
theorem dX12_init_109 : decode cX12_init 109 = .ok (.aload_n 0, 1) := by decide +kernel
theorem dX12_init_110 : decode cX12_init 110 = .ok (.sipush 200, 3) := by decide +kernel
theorem dX12_init_113 : decode cX12_init 113 = .ok (.newarray .int, 2) := by decide +kernel
theorem dX12_init_115 : decode cX12_init 115 = .ok (.putfield 48, 3) := by decide +kernel
theorem dX12_init_118 : decode cX12_init 118 = .ok (.aload_n 0, 1) := by decide +kernel
theorem dX12_init_119 : decode cX12_init 119 = .ok (.sipush 200, 3) := by decide +kernel
theorem dX12_init_122 : decode cX12_init 122 = .ok (.newarray .int, 2) := by decide +kernel
theorem dX12_init_124 : decode cX12_init 124 = .ok (.putfield 51, 3) := by decide +kernel
theorem dX12_init_127 : decode cX12_init 127 = .ok (.aload_n 0, 1) := by decide +kernel
theorem dX12_init_128 : decode cX12_init 128 = .ok (.sipush 200, 3) := by decide +kernel
theorem dX12_init_131 : decode cX12_init 131 = .ok (.newarray .int, 2) := by decide +kernel
theorem dX12_init_133 : decode cX12_init 133 = .ok (.putfield 54, 3) := by decide +kernel
theorem dX12_init_136 : decode cX12_init 136 = .ok (.aload_n 0, 1) := by decide +kernel
theorem dX12_init_137 : decode cX12_init 137 = .ok (.sipush 600, 3) := by decide +kernel
theorem dX12_init_140 : decode cX12_init 140 = .ok (.newarray .int, 2) := by decide +kernel
theorem dX12_init_142 : decode cX12_init 142 = .ok (.putfield 57, 3) := by decide +kernel
theorem dX12_init_145 : decode cX12_init 145 = .ok (.aload_n 0, 1) := by decide +kernel
theorem dX12_init_146 : decode cX12_init 146 = .ok (.sipush 600, 3) := by decide +kernel
theorem dX12_init_149 : decode cX12_init 149 = .ok (.newarray .int, 2) := by decide +kernel
theorem dX12_init_151 : decode cX12_init 151 = .ok (.putfield 60, 3) := by decide +kernel
theorem dX12_init_154 : decode cX12_init 154 = .ok (.aload_n 0, 1) := by decide +kernel
theorem dX12_init_155 : decode cX12_init 155 = .ok (.sipush 1200, 3) := by decide +kernel
theorem dX12_init_158 : decode cX12_init 158 = .ok (.newarray .int, 2) := by decide +kernel
theorem dX12_init_160 : decode cX12_init 160 = .ok (.putfield 63, 3) := by decide +kernel
theorem dX12_init_163 : decode cX12_init 163 = .ok (.aload_n 0, 1) := by decide +kernel
theorem dX12_init_164 : decode cX12_init 164 = .ok (.bipush 8, 2) := by decide +kernel
theorem dX12_init_166 : decode cX12_init 166 = .ok (.newarray .int, 2) := by decide +kernel
theorem dX12_init_168 : decode cX12_init 168 = .ok (.putfield 66, 3) := by decide +kernel
theorem dX12_init_171 : decode cX12_init 171 = .ok (.aload_n 0, 1) := by decide +kernel
theorem dX12_init_172 : decode cX12_init 172 = .ok (.bipush 8, 2) := by decide +kernel
theorem dX12_init_174 : decode cX12_init 174 = .ok (.newarray .int, 2) := by decide +kernel
theorem dX12_init_176 : decode cX12_init 176 = .ok (.putfield 69, 3) := by decide +kernel
theorem dX12_init_179 : decode cX12_init 179 = .ok (.aload_n 0, 1) := by decide +kernel
theorem dX12_init_180 : decode cX12_init 180 = .ok (.bipush 8, 2) := by decide +kernel
theorem dX12_init_182 : decode cX12_init 182 = .ok (.newarray .int, 2) := by decide +kernel
theorem dX12_init_184 : decode cX12_init 184 = .ok (.putfield 72, 3) := by decide +kernel
theorem dX12_init_187 : decode cX12_init 187 = .ok (.aload_n 0, 1) := by decide +kernel
theorem dX12_init_188 : decode cX12_init 188 = .ok (.bipush 8, 2) := by decide +kernel
theorem dX12_init_190 : decode cX12_init 190 = .ok (.newarray .int, 2) := by decide +kernel
theorem dX12_init_192 : decode cX12_init 192 = .ok (.putfield 75, 3) := by decide +kernel
theorem dX12_init_195 : decode cX12_init 195 = .ok (.aload_n 0, 1) := by decide +kernel
theorem dX12_init_196 : decode cX12_init 196 = .ok (.bipush 6, 2) := by decide +kernel
theorem dX12_init_198 : decode cX12_init 198 = .ok (.newarray .int, 2) := by decide +kernel
theorem dX12_init_200 : decode cX12_init 200 = .ok (.putfield 78, 3) := by decide +kernel
theorem dX12_init_203 : decode cX12_init 203 = .ok (.aload_n 0, 1) := by decide +kernel
theorem dX12_init_204 : decode cX12_init 204 = .ok (.bipush 18, 2) := by decide +kernel
theorem dX12_init_206 : decode cX12_init 206 = .ok (.newarray .int, 2) := by decide +kernel
theorem dX12_init_208 : decode cX12_init 208 = .ok (.putfield 81, 3) := by decide +kernel
theorem dX12_init_211 : decode cX12_init 211 = .ok (.aload_n 0, 1) := by decide +kernel
theorem dX12_init_212 : decode cX12_init 212 = .ok (.bipush 6, 2) := by decide +kernel
theorem dX12_init_214 : decode cX12_init 214 = .ok (.newarray .int, 2) := by decide +kernel
theorem dX12_init_216 : decode cX12_init 216 = .ok (.putfield 84, 3) := by decide +kernel
theorem dX12_init_219 : decode cX12_init 219 = .ok (.aload_n 0, 1) := by decide +kernel
theorem dX12_init_220 : decode cX12_init 220 = .ok (.bipush 48, 2) := by decide +kernel
theorem dX12_init_222 : decode cX12_init 222 = .ok (.newarray .int, 2) := by decide +kernel
theorem dX12_init_224 : decode cX12_init 224 = .ok (.putfield 87, 3) := by decide +kernel
theorem dX12_init_227 : decode cX12_init 227 = .ok (.aload_n 0, 1) := by decide +kernel
theorem dX12_init_228 : decode cX12_init 228 = .ok (.bipush 48, 2) := by decide +kernel
theorem dX12_init_230 : decode cX12_init 230 = .ok (.newarray .int, 2) := by decide +kernel
theorem dX12_init_232 : decode cX12_init 232 = .ok (.putfield 90, 3) := by decide +kernel
theorem dX12_init_235 : decode cX12_init 235 = .ok (.aload_n 0, 1) := by decide +kernel
theorem dX12_init_236 : decode cX12_init 236 = .ok (.bipush 6, 2) := by decide +kernel
theorem dX12_init_238 : decode cX12_init 238 = .ok (.newarray .int, 2) := by decide +kernel
theorem dX12_init_240 : decode cX12_init 240 = .ok (.putfield 93, 3) := by decide +kernel
theorem dX12_init_243 : decode cX12_init 243 = .ok (.aload_n 0, 1) := by decide +kernel
theorem dX12_init_244 : decode cX12_init 244 = .ok (.bipush 8, 2) := by decide +kernel
theorem dX12_init_246 : decode cX12_init 246 = .ok (.newarray .int, 2) := by decide +kernel
theorem dX12_init_248 : decode cX12_init 248 = .ok (.putfield 96, 3) := by decide +kernel
theorem dX12_init_251 : decode cX12_init 251 = .ok (.aload_n 0, 1) := by decide +kernel
theorem dX12_init_252 : decode cX12_init 252 = .ok (.iconst 1, 1) := by decide +kernel
theorem dX12_init_253 : decode cX12_init 253 = .ok (.putfield 99, 3) := by decide +kernel
theorem dX12_init_256 : decode cX12_init 256 = .ok (.aload_n 0, 1) := by decide +kernel
theorem dX12_init_257 : decode cX12_init 257 = .ok (.iconst 1, 1) := by decide +kernel
theorem dX12_init_258 : decode cX12_init 258 = .ok (.putfield 102, 3) := by decide +kernel
theorem dX12_init_261 : decode cX12_init 261 = .ok (.aload_n 0, 1) := by decide +kernel
theorem dX12_init_262 : decode cX12_init 262 = .ok (.bipush 12, 2) := by decide +kernel
theorem dX12_init_264 : decode cX12_init 264 = .ok (.putfield 105, 3) := by decide +kernel
theorem dX12_init_267 : decode cX12_init 267 = .ok (.aload_n 0, 1) := by decide +kernel
theorem dX12_init_268 : decode cX12_init 268 = .ok (.bipush 100, 2) := by decide +kernel
theorem dX12_init_270 : decode cX12_init 270 = .ok (.putfield 108, 3) := by decide +kernel
theorem dX12_init_273 : decode cX12_init 273 = .ok (.aload_n 0, 1) := by decide +kernel
theorem dX12_init_274 : decode cX12_init 274 = .ok (.bipush 100, 2) := by decide +kernel
theorem dX12_init_276 : decode cX12_init 276 = .ok (.putfield 111, 3) := by decide +kernel
theorem dX12_init_279 : decode cX12_init 279 = .ok (.aload_n 0, 1) := by decide +kernel
theorem dX12_init_280 : decode cX12_init 280 = .ok (.bipush 10, 2) := by decide +kernel
theorem dX12_init_282 : decode cX12_init 282 = .ok (.newarray .int, 2) := by decide +kernel
theorem dX12_init_284 : decode cX12_init 284 = .ok (.putfield 114, 3) := by decide +kernel
theorem dX12_init_287 : decode cX12_init 287 = .ok (.aload_n 0, 1) := by decide +kernel
theorem dX12_init_288 : decode cX12_init 288 = .ok (.bipush 10, 2) := by decide +kernel
theorem dX12_init_290 : decode cX12_init 290 = .ok (.newarray .int, 2) := by decide +kernel
theorem dX12_init_292 : decode cX12_init 292 = .ok (.putfield 117, 3) := by decide +kernel
theorem dX12_init_295 : decode cX12_init 295 = .ok (.return_, 1) := by decide +kernel
theorem dX12_in_0 : decode cX12_in 0 = .ok (.lload_n 0, 1) := by decide +kernel
theorem dX12_in_1 : decode cX12_in 1 = .ok (.lload_n 2, 1) := by decide +kernel
theorem dX12_in_2 : decode cX12_in 2 = .ok (.lcmp, 1) := by decide +kernel
theorem dX12_in_3 : decode cX12_in 3 = .ok (.ifCond .lt 14, 3) := by decide +kernel
theorem dX12_in_6 : decode cX12_in 6 = .ok (.lload_n 0, 1) := by decide +kernel
theorem dX12_in_7 : decode cX12_in 7 = .ok (.lload 4, 2) := by decide +kernel
theorem dX12_in_9 : decode cX12_in 9 = .ok (.lcmp, 1) := by decide +kernel
theorem dX12_in_10 : decode cX12_in 10 = .ok (.ifCond .gt 7, 3) := by decide +kernel
theorem dX12_in_13 : decode cX12_in 13 = .ok (.iconst 1, 1) := by decide +kernel
theorem dX12_in_14 : decode cX12_in 14 = .ok (.goto 4, 3) := by decide +kernel
theorem dX12_in_17 : decode cX12_in 17 = .ok (.iconst 0, 1) := by decide +kernel
theorem dX12_in_18 : decode cX12_in 18 = .ok (.ireturn, 1) := by decide +kernel
set_option maxRecDepth 20000 in
theorem ggX12_isBaker_X12_in : GoodIn wsX12_isBaker wsX12_in := goodIn_r _ [5] (by decide +kernel) (by decide +kernel)
set_option maxRecDepth 20000 in
theorem gX12_isBaker_X12_in : GoodIn wsX12_isBaker (va_wsS RX12 123 yX12_in wsX12_in) := goodIn_app (goodIn_of _ (by decide +kernel)) ggX12_isBaker_X12_in
theorem dX12_isBaker_0 : decode cX12_isBaker 0 = .ok (.iload_n 1, 1) := by decide +kernel
theorem dX12_isBaker_1 : decode cX12_isBaker 1 = .ok (.i2l, 1) := by decide +kernel
theorem dX12_isBaker_2 : decode cX12_isBaker 2 = .ok (.lconst 0, 1) := by decide +kernel
theorem dX12_isBaker_3 : decode cX12_isBaker 3 = .ok (.aload_n 0, 1) := by decide +kernel
theorem dX12_isBaker_4 : decode cX12_isBaker 4 = .ok (.getfield 120, 3) := by decide +kernel
theorem dX12_isBaker_7 : decode cX12_isBaker 7 = .ok (.iconst 1, 1) := by decide +kernel
theorem dX12_isBaker_8 : decode cX12_isBaker 8 = .ok (.isub, 1) := by decide +kernel
theorem dX12_isBaker_9 : decode cX12_isBaker 9 = .ok (.i2l, 1) := by decide +kernel
theorem dX12_isBaker_10 : decode cX12_isBaker 10 = .ok (.invokestatic 123, 3) := by decide +kernel
theorem dX12_isBaker_13 : decode cX12_isBaker 13 = .ok (.ireturn, 1) := by decide +kernel
set_option maxRecDepth 20000 in
theorem ggX12_isRecord_X12_in : GoodIn wsX12_isRecord wsX12_in := goodIn_r _ [5] (by decide +kernel) (by decide +kernel)
set_option maxRecDepth 20000 in
theorem gX12_isRecord_X12_in : GoodIn wsX12_isRecord (va_wsS RX12 123 yX12_in wsX12_in) := goodIn_app (goodIn_of _ (by decide +kernel)) ggX12_isRecord_X12_in
theorem dX12_isRecord_0 : decode cX12_isRecord 0 = .ok (.iload_n 1, 1) := by decide +kernel
theorem dX12_isRecord_1 : decode cX12_isRecord 1 = .ok (.i2l, 1) := by decide +kernel
theorem dX12_isRecord_2 : decode cX12_isRecord 2 = .ok (.lconst 0, 1) := by decide +kernel
theorem dX12_isRecord_3 : decode cX12_isRecord 3 = .ok (.aload_n 0, 1) := by decide +kernel
theorem dX12_isRecord_4 : decode cX12_isRecord 4 = .ok (.getfield 127, 3) := by decide +kernel
theorem dX12_isRecord_7 : decode cX12_isRecord 7 = .ok (.iconst 1, 1) := by decide +kernel
theorem dX12_isRecord_8 : decode cX12_isRecord 8 = .ok (.isub, 1) := by decide +kernel
theorem dX12_isRecord_9 : decode cX12_isRecord 9 = .ok (.i2l, 1) := by decide +kernel
theorem dX12_isRecord_10 : decode cX12_isRecord 10 = .ok (.invokestatic 123, 3) := by decide +kernel
theorem dX12_isRecord_13 : decode cX12_isRecord 13 = .ok (.ireturn, 1) := by decide +kernel
theorem dX12_enter_0 : decode cX12_enter 0 = .ok (.aload_n 0, 1) := by decide +kernel
theorem dX12_enter_1 : decode cX12_enter 1 = .ok (.getfield 7, 3) := by decide +kernel
theorem dX12_enter_4 : decode cX12_enter 4 = .ok (.aload_n 0, 1) := by decide +kernel
theorem dX12_enter_5 : decode cX12_enter 5 = .ok (.getfield 127, 3) := by decide +kernel
theorem dX12_enter_8 : decode cX12_enter 8 = .ok (.iload_n 1, 1) := by decide +kernel
theorem dX12_enter_9 : decode cX12_enter 9 = .ok (.iastore, 1) := by decide +kernel
theorem dX12_enter_10 : decode cX12_enter 10 = .ok (.aload_n 0, 1) := by decide +kernel
theorem dX12_enter_11 : decode cX12_enter 11 = .ok (.getfield 13, 3) := by decide +kernel
theorem dX12_enter_14 : decode cX12_enter 14 = .ok (.aload_n 0, 1) := by decide +kernel
theorem dX12_enter_15 : decode cX12_enter 15 = .ok (.getfield 127, 3) := by decide +kernel
theorem dX12_enter_18 : decode cX12_enter 18 = .ok (.aload_n 0, 1) := by decide +kernel
theorem dX12_enter_19 : decode cX12_enter 19 = .ok (.getfield 130, 3) := by decide +kernel
theorem dX12_enter_22 : decode cX12_enter 22 = .ok (.iastore, 1) := by decide +kernel
theorem dX12_enter_23 : decode cX12_enter 23 = .ok (.aload_n 0, 1) := by decide +kernel
theorem dX12_enter_24 : decode cX12_enter 24 = .ok (.getfield 16, 3) := by decide +kernel
theorem dX12_enter_27 : decode cX12_enter 27 = .ok (.aload_n 0, 1) := by decide +kernel
theorem dX12_enter_28 : decode cX12_enter 28 = .ok (.getfield 127, 3) := by decide +kernel
theorem dX12_enter_31 : decode cX12_enter 31 = .ok (.aload_n 0, 1) := by decide +kernel
theorem dX12_enter_32 : decode cX12_enter 32 = .ok (.getfield 133, 3) := by decide +kernel
theorem dX12_enter_35 : decode cX12_enter 35 = .ok (.iastore, 1) := by decide +kernel
theorem dX12_enter_36 : decode cX12_enter 36 = .ok (.aload_n 0, 1) := by decide +kernel
theorem dX12_enter_37 : decode cX12_enter 37 = .ok (.getfield 19, 3) := by decide +kernel
theorem dX12_enter_40 : decode cX12_enter 40 = .ok (.aload_n 0, 1) := by decide +kernel
theorem dX12_enter_41 : decode cX12_enter 41 = .ok (.getfield 127, 3) := by decide +kernel
theorem dX12_enter_44 : decode cX12_enter 44 = .ok (.iload_n 2, 1) := by decide +kernel
theorem dX12_enter_45 : decode cX12_enter 45 = .ok (.iastore, 1) := by decide +kernel
theorem dX12_enter_46 : decode cX12_enter 46 = .ok (.aload_n 0, 1) := by decide +kernel
theorem dX12_enter_47 : decode cX12_enter 47 = .ok (.dup, 1) := by decide +kernel
theorem dX12_enter_48 : decode cX12_enter 48 = .ok (.getfield 127, 3) := by decide +kernel
theorem dX12_enter_51 : decode cX12_enter 51 = .ok (.iconst 1, 1) := by decide +kernel
theorem dX12_enter_52 : decode cX12_enter 52 = .ok (.iadd, 1) := by decide +kernel
theorem dX12_enter_53 : decode cX12_enter 53 = .ok (.putfield 127, 3) := by decide +kernel
theorem dX12_enter_56 : decode cX12_enter 56 = .ok (.aload_n 0, 1) := by decide +kernel
theorem dX12_enter_57 : decode cX12_enter 57 = .ok (.getfield 127, 3) := by decide +kernel
theorem dX12_enter_60 : decode cX12_enter 60 = .ok (.iconst 1, 1) := by decide +kernel
theorem dX12_enter_61 : decode cX12_enter 61 = .ok (.isub, 1) := by decide +kernel
theorem dX12_enter_62 : decode cX12_enter 62 = .ok (.ireturn, 1) := by decide +kernel
set_option maxRecDepth 20000 in
theorem ggX12_endWeek_X12_needOf : GoodIn wsX12_endWeek wsX12_needOf := goodIn_r _ [14, 15, 16, 17, 18, 19, 20, 21, 22, 23, 24, 25, 26, 27, 28, 29, 30, 31, 32, 33, 34, 35, 36, 37, 38, 39, 40, 41, 42, 43, 44, 45, 46, 47, 48, 49, 50, 51, 52, 53, 54, 55, 56, 57, 58, 59, 60, 61, 62, 63, 64, 65, 66, 67] (by decide +kernel) (by decide +kernel)
set_option maxRecDepth 20000 in
theorem gX12_endWeek_X12_needOf : GoodIn wsX12_endWeek (wsV RX12 136 RX12 yX12_needOf wsX12_needOf) := goodIn_app (goodIn_of _ (by decide +kernel)) ggX12_endWeek_X12_needOf
theorem dX12_endWeek_0 : decode cX12_endWeek 0 = .ok (.aload_n 0, 1) := by decide +kernel
theorem dX12_endWeek_1 : decode cX12_endWeek 1 = .ok (.aload_n 0, 1) := by decide +kernel
theorem dX12_endWeek_2 : decode cX12_endWeek 2 = .ok (.getfield 111, 3) := by decide +kernel
theorem dX12_endWeek_5 : decode cX12_endWeek 5 = .ok (.invokevirtual 136, 3) := by decide +kernel
theorem dX12_endWeek_8 : decode cX12_endWeek 8 = .ok (.istore_n 1, 1) := by decide +kernel
theorem dX12_endWeek_9 : decode cX12_endWeek 9 = .ok (.aload_n 0, 1) := by decide +kernel
theorem dX12_endWeek_10 : decode cX12_endWeek 10 = .ok (.dup, 1) := by decide +kernel
theorem dX12_endWeek_11 : decode cX12_endWeek 11 = .ok (.getfield 140, 3) := by decide +kernel
theorem dX12_endWeek_14 : decode cX12_endWeek 14 = .ok (.aload_n 0, 1) := by decide +kernel
theorem dX12_endWeek_15 : decode cX12_endWeek 15 = .ok (.getfield 143, 3) := by decide +kernel
theorem dX12_endWeek_18 : decode cX12_endWeek 18 = .ok (.iload_n 1, 1) := by decide +kernel
theorem dX12_endWeek_19 : decode cX12_endWeek 19 = .ok (.if_icmp .ge 7, 3) := by decide +kernel
theorem dX12_endWeek_22 : decode cX12_endWeek 22 = .ok (.iconst 1, 1) := by decide +kernel
theorem dX12_endWeek_23 : decode cX12_endWeek 23 = .ok (.goto 4, 3) := by decide +kernel
theorem dX12_endWeek_26 : decode cX12_endWeek 26 = .ok (.iconst 0, 1) := by decide +kernel
theorem dX12_endWeek_27 : decode cX12_endWeek 27 = .ok (.iadd, 1) := by decide +kernel
theorem dX12_endWeek_28 : decode cX12_endWeek 28 = .ok (.putfield 140, 3) := by decide +kernel
theorem dX12_endWeek_31 : decode cX12_endWeek 31 = .ok (.aload_n 0, 1) := by decide +kernel
theorem dX12_endWeek_32 : decode cX12_endWeek 32 = .ok (.dup, 1) := by decide +kernel
theorem dX12_endWeek_33 : decode cX12_endWeek 33 = .ok (.getfield 143, 3) := by decide +kernel
theorem dX12_endWeek_36 : decode cX12_endWeek 36 = .ok (.aload_n 0, 1) := by decide +kernel
theorem dX12_endWeek_37 : decode cX12_endWeek 37 = .ok (.getfield 143, 3) := by decide +kernel
theorem dX12_endWeek_40 : decode cX12_endWeek 40 = .ok (.iload_n 1, 1) := by decide +kernel
theorem dX12_endWeek_41 : decode cX12_endWeek 41 = .ok (.if_icmp .ge 10, 3) := by decide +kernel
theorem dX12_endWeek_44 : decode cX12_endWeek 44 = .ok (.aload_n 0, 1) := by decide +kernel
theorem dX12_endWeek_45 : decode cX12_endWeek 45 = .ok (.getfield 143, 3) := by decide +kernel
theorem dX12_endWeek_48 : decode cX12_endWeek 48 = .ok (.goto 4, 3) := by decide +kernel
theorem dX12_endWeek_51 : decode cX12_endWeek 51 = .ok (.iload_n 1, 1) := by decide +kernel
theorem dX12_endWeek_52 : decode cX12_endWeek 52 = .ok (.isub, 1) := by decide +kernel
theorem dX12_endWeek_53 : decode cX12_endWeek 53 = .ok (.putfield 143, 3) := by decide +kernel
theorem dX12_endWeek_56 : decode cX12_endWeek 56 = .ok (.aload_n 0, 1) := by decide +kernel
theorem dX12_endWeek_57 : decode cX12_endWeek 57 = .ok (.dup, 1) := by decide +kernel
theorem dX12_endWeek_58 : decode cX12_endWeek 58 = .ok (.getfield 130, 3) := by decide +kernel
theorem dX12_endWeek_61 : decode cX12_endWeek 61 = .ok (.iconst 1, 1) := by decide +kernel
theorem dX12_endWeek_62 : decode cX12_endWeek 62 = .ok (.iadd, 1) := by decide +kernel
theorem dX12_endWeek_63 : decode cX12_endWeek 63 = .ok (.putfield 130, 3) := by decide +kernel
theorem dX12_endWeek_66 : decode cX12_endWeek 66 = .ok (.aload_n 0, 1) := by decide +kernel
theorem dX12_endWeek_67 : decode cX12_endWeek 67 = .ok (.iconst 0, 1) := by decide +kernel
theorem dX12_endWeek_68 : decode cX12_endWeek 68 = .ok (.putfield 133, 3) := by decide +kernel
theorem dX12_endWeek_71 : decode cX12_endWeek 71 = .ok (.iconst 0, 1) := by decide +kernel
theorem dX12_endWeek_72 : decode cX12_endWeek 72 = .ok (.istore_n 2, 1) := by decide +kernel
theorem dX12_endWeek_73 : decode cX12_endWeek 73 = .ok (.iconst 0, 1) := by decide +kernel
theorem dX12_endWeek_74 : decode cX12_endWeek 74 = .ok (.istore_n 3, 1) := by decide +kernel
theorem dX12_endWeek_75 : decode cX12_endWeek 75 = .ok (.iload_n 3, 1) := by decide +kernel
theorem dX12_endWeek_76 : decode cX12_endWeek 76 = .ok (.aload_n 0, 1) := by decide +kernel
theorem dX12_endWeek_77 : decode cX12_endWeek 77 = .ok (.getfield 146, 3) := by decide +kernel
theorem dX12_endWeek_80 : decode cX12_endWeek 80 = .ok (.if_icmp .ge 88, 3) := by decide +kernel
theorem dX12_endWeek_83 : decode cX12_endWeek 83 = .ok (.aload_n 0, 1) := by decide +kernel
theorem dX12_endWeek_84 : decode cX12_endWeek 84 = .ok (.getfield 114, 3) := by decide +kernel
theorem dX12_endWeek_87 : decode cX12_endWeek 87 = .ok (.iload_n 3, 1) := by decide +kernel
theorem dX12_endWeek_88 : decode cX12_endWeek 88 = .ok (.iaload, 1) := by decide +kernel
theorem dX12_endWeek_89 : decode cX12_endWeek 89 = .ok (.aload_n 0, 1) := by decide +kernel
theorem dX12_endWeek_90 : decode cX12_endWeek 90 = .ok (.getfield 130, 3) := by decide +kernel
theorem dX12_endWeek_93 : decode cX12_endWeek 93 = .ok (.if_icmp .ne 42, 3) := by decide +kernel
theorem dX12_endWeek_96 : decode cX12_endWeek 96 = .ok (.aload_n 0, 1) := by decide +kernel
theorem dX12_endWeek_97 : decode cX12_endWeek 97 = .ok (.aload_n 0, 1) := by decide +kernel
theorem dX12_endWeek_98 : decode cX12_endWeek 98 = .ok (.getfield 143, 3) := by decide +kernel
theorem dX12_endWeek_101 : decode cX12_endWeek 101 = .ok (.aload_n 0, 1) := by decide +kernel
theorem dX12_endWeek_102 : decode cX12_endWeek 102 = .ok (.getfield 117, 3) := by decide +kernel
theorem dX12_endWeek_105 : decode cX12_endWeek 105 = .ok (.iload_n 3, 1) := by decide +kernel
theorem dX12_endWeek_106 : decode cX12_endWeek 106 = .ok (.iaload, 1) := by decide +kernel
theorem dX12_endWeek_107 : decode cX12_endWeek 107 = .ok (.iadd, 1) := by decide +kernel
theorem dX12_endWeek_108 : decode cX12_endWeek 108 = .ok (.ldc 149, 2) := by decide +kernel
theorem dX12_endWeek_110 : decode cX12_endWeek 110 = .ok (.if_icmp .le 8, 3) := by decide +kernel
theorem dX12_endWeek_113 : decode cX12_endWeek 113 = .ok (.ldc 149, 2) := by decide +kernel
theorem dX12_endWeek_115 : decode cX12_endWeek 115 = .ok (.goto 14, 3) := by decide +kernel
theorem dX12_endWeek_118 : decode cX12_endWeek 118 = .ok (.aload_n 0, 1) := by decide +kernel
theorem dX12_endWeek_119 : decode cX12_endWeek 119 = .ok (.getfield 143, 3) := by decide +kernel
theorem dX12_endWeek_122 : decode cX12_endWeek 122 = .ok (.aload_n 0, 1) := by decide +kernel
theorem dX12_endWeek_123 : decode cX12_endWeek 123 = .ok (.getfield 117, 3) := by decide +kernel
theorem dX12_endWeek_126 : decode cX12_endWeek 126 = .ok (.iload_n 3, 1) := by decide +kernel
theorem dX12_endWeek_127 : decode cX12_endWeek 127 = .ok (.iaload, 1) := by decide +kernel
theorem dX12_endWeek_128 : decode cX12_endWeek 128 = .ok (.iadd, 1) := by decide +kernel
theorem dX12_endWeek_129 : decode cX12_endWeek 129 = .ok (.putfield 143, 3) := by decide +kernel
theorem dX12_endWeek_132 : decode cX12_endWeek 132 = .ok (.goto 30, 3) := by decide +kernel
theorem dX12_endWeek_135 : decode cX12_endWeek 135 = .ok (.aload_n 0, 1) := by decide +kernel
theorem dX12_endWeek_136 : decode cX12_endWeek 136 = .ok (.getfield 114, 3) := by decide +kernel
theorem dX12_endWeek_139 : decode cX12_endWeek 139 = .ok (.iload_n 2, 1) := by decide +kernel
theorem dX12_endWeek_140 : decode cX12_endWeek 140 = .ok (.aload_n 0, 1) := by decide +kernel
theorem dX12_endWeek_141 : decode cX12_endWeek 141 = .ok (.getfield 114, 3) := by decide +kernel
theorem dX12_endWeek_144 : decode cX12_endWeek 144 = .ok (.iload_n 3, 1) := by decide +kernel
theorem dX12_endWeek_145 : decode cX12_endWeek 145 = .ok (.iaload, 1) := by decide +kernel
theorem dX12_endWeek_146 : decode cX12_endWeek 146 = .ok (.iastore, 1) := by decide +kernel
theorem dX12_endWeek_147 : decode cX12_endWeek 147 = .ok (.aload_n 0, 1) := by decide +kernel
theorem dX12_endWeek_148 : decode cX12_endWeek 148 = .ok (.getfield 117, 3) := by decide +kernel
theorem dX12_endWeek_151 : decode cX12_endWeek 151 = .ok (.iload_n 2, 1) := by decide +kernel
theorem dX12_endWeek_152 : decode cX12_endWeek 152 = .ok (.aload_n 0, 1) := by decide +kernel
theorem dX12_endWeek_153 : decode cX12_endWeek 153 = .ok (.getfield 117, 3) := by decide +kernel
theorem dX12_endWeek_156 : decode cX12_endWeek 156 = .ok (.iload_n 3, 1) := by decide +kernel
theorem dX12_endWeek_157 : decode cX12_endWeek 157 = .ok (.iaload, 1) := by decide +kernel
theorem dX12_endWeek_158 : decode cX12_endWeek 158 = .ok (.iastore, 1) := by decide +kernel
theorem dX12_endWeek_159 : decode cX12_endWeek 159 = .ok (.iinc 2 1, 3) := by decide +kernel
theorem dX12_endWeek_162 : decode cX12_endWeek 162 = .ok (.iinc 3 1, 3) := by decide +kernel
theorem dX12_endWeek_165 : decode cX12_endWeek 165 = .ok (.goto (-90), 3) := by decide +kernel
theorem dX12_endWeek_168 : decode cX12_endWeek 168 = .ok (.aload_n 0, 1) := by decide +kernel
theorem dX12_endWeek_169 : decode cX12_endWeek 169 = .ok (.iload_n 2, 1) := by decide +kernel
theorem dX12_endWeek_170 : decode cX12_endWeek 170 = .ok (.putfield 146, 3) := by decide +kernel
theorem dX12_endWeek_173 : decode cX12_endWeek 173 = .ok (.return_, 1) := by decide +kernel
set_option maxRecDepth 20000 in
theorem ggX12_go_X12_in : GoodIn wsX12_go wsX12_in := goodIn_r _ [8] (by decide +kernel) (by decide +kernel)
set_option maxRecDepth 20000 in
theorem gX12_go_X12_in : GoodIn wsX12_go (va_wsS RX12 123 yX12_in wsX12_in) := goodIn_app (goodIn_of _ (by decide +kernel)) ggX12_go_X12_in
set_option maxRecDepth 20000 in
theorem ggX12_go_X12_endWeek : GoodIn wsX12_go wsX12_endWeek := goodIn_r _ [12, 13, 14, 15, 2, 3, 16, 17, 18, 19, 20, 21, 22, 7, 23, 24, 25, 26, 27, 28, 29, 30, 31, 32, 33, 34, 35, 36, 37, 38, 39, 40, 41, 42, 43, 44, 45, 46, 47, 48, 49, 50, 51, 52, 53, 54, 55, 56, 57, 58, 59, 60, 61, 62, 63, 64, 65, 66, 67, 68, 69, 70, 71, 72, 73, 74, 75, 76] (by decide +kernel) (by decide +kernel)
set_option maxRecDepth 20000 in
theorem gX12_go_X12_endWeek : GoodIn wsX12_go (wsV RX12 153 RX12 yX12_endWeek wsX12_endWeek) := goodIn_app (goodIn_of _ (by decide +kernel)) ggX12_go_X12_endWeek
theorem dX12_go_0 : decode cX12_go 0 = .ok (.iload_n 1, 1) := by decide +kernel
theorem dX12_go_1 : decode cX12_go 1 = .ok (.i2l, 1) := by decide +kernel
theorem dX12_go_2 : decode cX12_go 2 = .ok (.lconst 1, 1) := by decide +kernel
theorem dX12_go_3 : decode cX12_go 3 = .ok (.ldc2_w 150, 3) := by decide +kernel
theorem dX12_go_6 : decode cX12_go 6 = .ok (.invokestatic 123, 3) := by decide +kernel
theorem dX12_go_9 : decode cX12_go 9 = .ok (.ifCond .ne 6, 3) := by decide +kernel
theorem dX12_go_12 : decode cX12_go 12 = .ok (.bipush (-2), 2) := by decide +kernel
theorem dX12_go_14 : decode cX12_go 14 = .ok (.ireturn, 1) := by decide +kernel
theorem dX12_go_15 : decode cX12_go 15 = .ok (.sipush 168, 3) := by decide +kernel
theorem dX12_go_18 : decode cX12_go 18 = .ok (.aload_n 0, 1) := by decide +kernel
theorem dX12_go_19 : decode cX12_go 19 = .ok (.getfield 130, 3) := by decide +kernel
theorem dX12_go_22 : decode cX12_go 22 = .ok (.imul, 1) := by decide +kernel
theorem dX12_go_23 : decode cX12_go 23 = .ok (.aload_n 0, 1) := by decide +kernel
theorem dX12_go_24 : decode cX12_go 24 = .ok (.getfield 133, 3) := by decide +kernel
theorem dX12_go_27 : decode cX12_go 27 = .ok (.iadd, 1) := by decide +kernel
theorem dX12_go_28 : decode cX12_go 28 = .ok (.iload_n 1, 1) := by decide +kernel
theorem dX12_go_29 : decode cX12_go 29 = .ok (.iadd, 1) := by decide +kernel
theorem dX12_go_30 : decode cX12_go 30 = .ok (.ldc 152, 2) := by decide +kernel
theorem dX12_go_32 : decode cX12_go 32 = .ok (.if_icmp .le 6, 3) := by decide +kernel
theorem dX12_go_35 : decode cX12_go 35 = .ok (.bipush (-3), 2) := by decide +kernel
theorem dX12_go_37 : decode cX12_go 37 = .ok (.ireturn, 1) := by decide +kernel
theorem dX12_go_38 : decode cX12_go 38 = .ok (.iconst 0, 1) := by decide +kernel
theorem dX12_go_39 : decode cX12_go 39 = .ok (.istore_n 2, 1) := by decide +kernel
theorem dX12_go_40 : decode cX12_go 40 = .ok (.iload_n 2, 1) := by decide +kernel
theorem dX12_go_41 : decode cX12_go 41 = .ok (.iload_n 1, 1) := by decide +kernel
theorem dX12_go_42 : decode cX12_go 42 = .ok (.if_icmp .ge 33, 3) := by decide +kernel
theorem dX12_go_45 : decode cX12_go 45 = .ok (.aload_n 0, 1) := by decide +kernel
theorem dX12_go_46 : decode cX12_go 46 = .ok (.dup, 1) := by decide +kernel
theorem dX12_go_47 : decode cX12_go 47 = .ok (.getfield 133, 3) := by decide +kernel
theorem dX12_go_50 : decode cX12_go 50 = .ok (.iconst 1, 1) := by decide +kernel
theorem dX12_go_51 : decode cX12_go 51 = .ok (.iadd, 1) := by decide +kernel
theorem dX12_go_52 : decode cX12_go 52 = .ok (.putfield 133, 3) := by decide +kernel
theorem dX12_go_55 : decode cX12_go 55 = .ok (.aload_n 0, 1) := by decide +kernel
theorem dX12_go_56 : decode cX12_go 56 = .ok (.getfield 133, 3) := by decide +kernel
theorem dX12_go_59 : decode cX12_go 59 = .ok (.sipush 168, 3) := by decide +kernel
theorem dX12_go_62 : decode cX12_go 62 = .ok (.if_icmp .ne 7, 3) := by decide +kernel
theorem dX12_go_65 : decode cX12_go 65 = .ok (.aload_n 0, 1) := by decide +kernel
theorem dX12_go_66 : decode cX12_go 66 = .ok (.invokevirtual 153, 3) := by decide +kernel
theorem dX12_go_69 : decode cX12_go 69 = .ok (.iinc 2 1, 3) := by decide +kernel
theorem dX12_go_72 : decode cX12_go 72 = .ok (.goto (-32), 3) := by decide +kernel
theorem dX12_go_75 : decode cX12_go 75 = .ok (.aload_n 0, 1) := by decide +kernel
theorem dX12_go_76 : decode cX12_go 76 = .ok (.getfield 130, 3) := by decide +kernel
theorem dX12_go_79 : decode cX12_go 79 = .ok (.ireturn, 1) := by decide +kernel
theorem dX12_baker_0 : decode cX12_baker 0 = .ok (.aload_n 0, 1) := by decide +kernel
theorem dX12_baker_1 : decode cX12_baker 1 = .ok (.getfield 120, 3) := by decide +kernel
theorem dX12_baker_4 : decode cX12_baker 4 = .ok (.bipush 8, 2) := by decide +kernel
theorem dX12_baker_6 : decode cX12_baker 6 = .ok (.if_icmp .ne 6, 3) := by decide +kernel
theorem dX12_baker_9 : decode cX12_baker 9 = .ok (.bipush (-4), 2) := by decide +kernel
theorem dX12_baker_11 : decode cX12_baker 11 = .ok (.ireturn, 1) := by decide +kernel
theorem dX12_baker_12 : decode cX12_baker 12 = .ok (.aload_n 0, 1) := by decide +kernel
theorem dX12_baker_13 : decode cX12_baker 13 = .ok (.getfield 75, 3) := by decide +kernel
theorem dX12_baker_16 : decode cX12_baker 16 = .ok (.aload_n 0, 1) := by decide +kernel
theorem dX12_baker_17 : decode cX12_baker 17 = .ok (.getfield 120, 3) := by decide +kernel
theorem dX12_baker_20 : decode cX12_baker 20 = .ok (.bipush (-6), 2) := by decide +kernel
theorem dX12_baker_22 : decode cX12_baker 22 = .ok (.iastore, 1) := by decide +kernel
theorem dX12_baker_23 : decode cX12_baker 23 = .ok (.aload_n 0, 1) := by decide +kernel
theorem dX12_baker_24 : decode cX12_baker 24 = .ok (.dup, 1) := by decide +kernel
theorem dX12_baker_25 : decode cX12_baker 25 = .ok (.getfield 120, 3) := by decide +kernel
theorem dX12_baker_28 : decode cX12_baker 28 = .ok (.iconst 1, 1) := by decide +kernel
theorem dX12_baker_29 : decode cX12_baker 29 = .ok (.iadd, 1) := by decide +kernel
theorem dX12_baker_30 : decode cX12_baker 30 = .ok (.putfield 120, 3) := by decide +kernel
theorem dX12_baker_33 : decode cX12_baker 33 = .ok (.aload_n 0, 1) := by decide +kernel
theorem dX12_baker_34 : decode cX12_baker 34 = .ok (.iconst 0, 1) := by decide +kernel
theorem dX12_baker_35 : decode cX12_baker 35 = .ok (.putfield 156, 3) := by decide +kernel
theorem dX12_baker_38 : decode cX12_baker 38 = .ok (.aload_n 0, 1) := by decide +kernel
theorem dX12_baker_39 : decode cX12_baker 39 = .ok (.getfield 120, 3) := by decide +kernel
theorem dX12_baker_42 : decode cX12_baker 42 = .ok (.iconst 1, 1) := by decide +kernel
theorem dX12_baker_43 : decode cX12_baker 43 = .ok (.isub, 1) := by decide +kernel
theorem dX12_baker_44 : decode cX12_baker 44 = .ok (.ireturn, 1) := by decide +kernel
set_option maxRecDepth 20000 in
theorem ggX12_buy_X12_isBaker : GoodIn wsX12_buy wsX12_isBaker := goodIn_r _ [10, 11, 12, 13, 9, 14, 25, 26, 27, 28, 29, 30, 31, 32, 33, 34, 35, 36, 37, 38, 39, 40, 41, 42, 43, 44, 45, 46, 47, 48, 49, 50, 51, 52, 53, 54, 55, 56, 57, 58, 59, 60, 61, 62, 63, 64, 65, 66, 67, 68, 69, 70, 71, 72, 73, 74] (by decide +kernel) (by decide +kernel)
set_option maxRecDepth 20000 in
theorem gX12_buy_X12_isBaker : GoodIn wsX12_buy (wsV RX12 159 RX12 yX12_isBaker wsX12_isBaker) := goodIn_app (goodIn_of _ (by decide +kernel)) ggX12_buy_X12_isBaker
set_option maxRecDepth 20000 in
theorem ggX12_buy_X12_in : GoodIn wsX12_buy wsX12_in := goodIn_r _ [14] (by decide +kernel) (by decide +kernel)
set_option maxRecDepth 20000 in
theorem gX12_buy_X12_in : GoodIn wsX12_buy (va_wsS RX12 123 yX12_in wsX12_in) := goodIn_app (goodIn_of _ (by decide +kernel)) ggX12_buy_X12_in
set_option maxRecDepth 20000 in
theorem ggX12_buy_X12_enter : GoodIn wsX12_buy wsX12_enter := goodIn_r _ [18, 19, 3, 20, 21, 22, 23, 24, 25, 26, 27, 28, 29, 30, 31, 32, 33, 34, 35, 36, 37, 38, 39, 40, 41, 42, 43, 44, 45, 46, 47, 48, 49, 50, 51, 52, 53, 54, 55, 56, 57, 58, 59, 60, 61, 62, 63, 64, 65, 66, 67, 68, 69, 70, 71, 72, 73, 74] (by decide +kernel) (by decide +kernel)
set_option maxRecDepth 20000 in
theorem gX12_buy_X12_enter : GoodIn wsX12_buy (wsV RX12 167 RX12 yX12_enter wsX12_enter) := goodIn_app (goodIn_of _ (by decide +kernel)) ggX12_buy_X12_enter
theorem dX12_buy_0 : decode cX12_buy 0 = .ok (.aload_n 0, 1) := by decide +kernel
theorem dX12_buy_1 : decode cX12_buy 1 = .ok (.iload_n 1, 1) := by decide +kernel
theorem dX12_buy_2 : decode cX12_buy 2 = .ok (.invokevirtual 159, 3) := by decide +kernel
theorem dX12_buy_5 : decode cX12_buy 5 = .ok (.ifCond .ne 5, 3) := by decide +kernel
theorem dX12_buy_8 : decode cX12_buy 8 = .ok (.iconst (-1), 1) := by decide +kernel
theorem dX12_buy_9 : decode cX12_buy 9 = .ok (.ireturn, 1) := by decide +kernel
theorem dX12_buy_10 : decode cX12_buy 10 = .ok (.iload_n 2, 1) := by decide +kernel
theorem dX12_buy_11 : decode cX12_buy 11 = .ok (.i2l, 1) := by decide +kernel
theorem dX12_buy_12 : decode cX12_buy 12 = .ok (.lconst 1, 1) := by decide +kernel
theorem dX12_buy_13 : decode cX12_buy 13 = .ok (.ldc2_w 163, 3) := by decide +kernel
