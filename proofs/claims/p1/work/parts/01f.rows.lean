theorem dX6_make_41 : decode cX6_make 41 = .ok (.iconst 2, 1) := by decide +kernel
theorem dX6_make_42 : decode cX6_make 42 = .ok (.iadd, 1) := by decide +kernel
theorem dX6_make_43 : decode cX6_make 43 = .ok (.iaload, 1) := by decide +kernel
theorem dX6_make_44 : decode cX6_make 44 = .ok (.iadd, 1) := by decide +kernel
theorem dX6_make_45 : decode cX6_make 45 = .ok (.istore 5, 2) := by decide +kernel
theorem dX6_make_47 : decode cX6_make 47 = .ok (.iconst 0, 1) := by decide +kernel
theorem dX6_make_48 : decode cX6_make 48 = .ok (.istore 6, 2) := by decide +kernel
theorem dX6_make_50 : decode cX6_make 50 = .ok (.iload 5, 2) := by decide +kernel
theorem dX6_make_52 : decode cX6_make 52 = .ok (.ifCond .le 52, 3) := by decide +kernel
theorem dX6_make_55 : decode cX6_make 55 = .ok (.aload_n 0, 1) := by decide +kernel
theorem dX6_make_56 : decode cX6_make 56 = .ok (.iload 5, 2) := by decide +kernel
theorem dX6_make_58 : decode cX6_make 58 = .ok (.invokevirtual 130, 3) := by decide +kernel
theorem dX6_make_61 : decode cX6_make 61 = .ok (.istore 7, 2) := by decide +kernel
theorem dX6_make_63 : decode cX6_make 63 = .ok (.iload 7, 2) := by decide +kernel
theorem dX6_make_65 : decode cX6_make 65 = .ok (.iload_n 3, 1) := by decide +kernel
theorem dX6_make_66 : decode cX6_make 66 = .ok (.if_icmp .ge 11, 3) := by decide +kernel
theorem dX6_make_69 : decode cX6_make 69 = .ok (.aload_n 0, 1) := by decide +kernel
theorem dX6_make_70 : decode cX6_make 70 = .ok (.iconst 3, 1) := by decide +kernel
theorem dX6_make_71 : decode cX6_make 71 = .ok (.invokevirtual 130, 3) := by decide +kernel
theorem dX6_make_74 : decode cX6_make 74 = .ok (.goto 28, 3) := by decide +kernel
theorem dX6_make_77 : decode cX6_make 77 = .ok (.iload 7, 2) := by decide +kernel
theorem dX6_make_79 : decode cX6_make 79 = .ok (.iload 4, 2) := by decide +kernel
theorem dX6_make_81 : decode cX6_make 81 = .ok (.if_icmp .ge 13, 3) := by decide +kernel
theorem dX6_make_84 : decode cX6_make 84 = .ok (.iconst 3, 1) := by decide +kernel
theorem dX6_make_85 : decode cX6_make 85 = .ok (.aload_n 0, 1) := by decide +kernel
theorem dX6_make_86 : decode cX6_make 86 = .ok (.iconst 4, 1) := by decide +kernel
theorem dX6_make_87 : decode cX6_make 87 = .ok (.invokevirtual 130, 3) := by decide +kernel
theorem dX6_make_90 : decode cX6_make 90 = .ok (.iadd, 1) := by decide +kernel
theorem dX6_make_91 : decode cX6_make 91 = .ok (.goto 11, 3) := by decide +kernel
theorem dX6_make_94 : decode cX6_make 94 = .ok (.bipush 7, 2) := by decide +kernel
theorem dX6_make_96 : decode cX6_make 96 = .ok (.aload_n 0, 1) := by decide +kernel
theorem dX6_make_97 : decode cX6_make 97 = .ok (.iconst 3, 1) := by decide +kernel
theorem dX6_make_98 : decode cX6_make 98 = .ok (.invokevirtual 130, 3) := by decide +kernel
theorem dX6_make_101 : decode cX6_make 101 = .ok (.iadd, 1) := by decide +kernel
theorem dX6_make_102 : decode cX6_make 102 = .ok (.istore 6, 2) := by decide +kernel
theorem dX6_make_104 : decode cX6_make 104 = .ok (.bipush 10, 2) := by decide +kernel
theorem dX6_make_106 : decode cX6_make 106 = .ok (.iload_n 1, 1) := by decide +kernel
theorem dX6_make_107 : decode cX6_make 107 = .ok (.imul, 1) := by decide +kernel
theorem dX6_make_108 : decode cX6_make 108 = .ok (.iload 6, 2) := by decide +kernel
theorem dX6_make_110 : decode cX6_make 110 = .ok (.iadd, 1) := by decide +kernel
theorem dX6_make_111 : decode cX6_make 111 = .ok (.istore_n 1, 1) := by decide +kernel
theorem dX6_make_112 : decode cX6_make 112 = .ok (.iinc 2 1, 3) := by decide +kernel
theorem dX6_make_115 : decode cX6_make 115 = .ok (.goto (-111), 3) := by decide +kernel
theorem dX6_make_118 : decode cX6_make 118 = .ok (.iload_n 1, 1) := by decide +kernel
theorem dX6_make_119 : decode cX6_make 119 = .ok (.ireturn, 1) := by decide +kernel
theorem dX6_placeOf_0 : decode cX6_placeOf 0 = .ok (.iconst 0, 1) := by decide +kernel
theorem dX6_placeOf_1 : decode cX6_placeOf 1 = .ok (.istore_n 2, 1) := by decide +kernel
theorem dX6_placeOf_2 : decode cX6_placeOf 2 = .ok (.iload_n 2, 1) := by decide +kernel
theorem dX6_placeOf_3 : decode cX6_placeOf 3 = .ok (.aload_n 0, 1) := by decide +kernel
theorem dX6_placeOf_4 : decode cX6_placeOf 4 = .ok (.getfield 92, 3) := by decide +kernel
theorem dX6_placeOf_7 : decode cX6_placeOf 7 = .ok (.if_icmp .ge 21, 3) := by decide +kernel
theorem dX6_placeOf_10 : decode cX6_placeOf 10 = .ok (.aload_n 0, 1) := by decide +kernel
theorem dX6_placeOf_11 : decode cX6_placeOf 11 = .ok (.getfield 33, 3) := by decide +kernel
theorem dX6_placeOf_14 : decode cX6_placeOf 14 = .ok (.iload_n 2, 1) := by decide +kernel
theorem dX6_placeOf_15 : decode cX6_placeOf 15 = .ok (.iaload, 1) := by decide +kernel
theorem dX6_placeOf_16 : decode cX6_placeOf 16 = .ok (.iload_n 1, 1) := by decide +kernel
theorem dX6_placeOf_17 : decode cX6_placeOf 17 = .ok (.if_icmp .ne 5, 3) := by decide +kernel
theorem dX6_placeOf_20 : decode cX6_placeOf 20 = .ok (.iload_n 2, 1) := by decide +kernel
theorem dX6_placeOf_21 : decode cX6_placeOf 21 = .ok (.ireturn, 1) := by decide +kernel
theorem dX6_placeOf_22 : decode cX6_placeOf 22 = .ok (.iinc 2 1, 3) := by decide +kernel
theorem dX6_placeOf_25 : decode cX6_placeOf 25 = .ok (.goto (-23), 3) := by decide +kernel
theorem dX6_placeOf_28 : decode cX6_placeOf 28 = .ok (.iconst (-1), 1) := by decide +kernel
theorem dX6_placeOf_29 : decode cX6_placeOf 29 = .ok (.ireturn, 1) := by decide +kernel
set_option maxRecDepth 20000 in
theorem ggX6_tasteNow_X6_placeOf : GoodIn wsX6_tasteNow wsX6_placeOf := goodIn_r _ [11, 2, 1, 60, 61, 62, 63, 64, 65, 66, 67, 68, 69, 70, 71, 72, 73, 74, 75, 76, 77] (by decide +kernel) (by decide +kernel)
set_option maxRecDepth 20000 in
theorem gX6_tasteNow_X6_placeOf : GoodIn wsX6_tasteNow (wsV RX6 133 RX6 yX6_placeOf wsX6_placeOf) := goodIn_app (goodIn_of _ (by decide +kernel)) ggX6_tasteNow_X6_placeOf
set_option maxRecDepth 20000 in
theorem ggX6_tasteNow_X6_edgesOf : GoodIn wsX6_tasteNow wsX6_edgesOf := goodIn_r _ [15, 16, 17, 18, 10, 19, 20, 21, 22, 23, 24, 25, 26, 27, 28, 29, 30, 31, 32, 33, 34, 35, 36, 37, 38, 39, 60, 61, 62, 63, 64, 65, 66, 67, 68, 69, 70, 71, 72, 73, 74, 75, 76, 77] (by decide +kernel) (by decide +kernel)
set_option maxRecDepth 20000 in
theorem gX6_tasteNow_X6_edgesOf : GoodIn wsX6_tasteNow (wsV RX6 98 RX6 yX6_edgesOf wsX6_edgesOf) := goodIn_app (goodIn_of _ (by decide +kernel)) ggX6_tasteNow_X6_edgesOf
set_option maxRecDepth 20000 in
theorem ggX6_tasteNow_X6_resultOf : GoodIn wsX6_tasteNow wsX6_resultOf := goodIn_r _ [43, 16, 17, 18, 10, 19, 20, 21, 22, 23, 24, 25, 26, 27, 28, 29, 30, 31, 32, 33, 34, 35, 36, 37, 38, 39, 60, 61, 62, 63, 64, 65, 66, 67, 68, 69, 70, 71, 72, 73, 74, 75, 76, 77] (by decide +kernel) (by decide +kernel)
set_option maxRecDepth 20000 in
theorem gX6_tasteNow_X6_resultOf : GoodIn wsX6_tasteNow (wsV RX6 101 RX6 yX6_resultOf wsX6_resultOf) := goodIn_app (goodIn_of _ (by decide +kernel)) ggX6_tasteNow_X6_resultOf
set_option maxRecDepth 20000 in
theorem ggX6_tasteNow_X6_isNeeded : GoodIn wsX6_tasteNow wsX6_isNeeded := goodIn_r _ [47, 48, 49, 50, 10, 51, 2, 5, 3, 52, 53, 54, 55, 4, 60, 61, 62, 63, 64, 65, 66, 67, 68, 69, 70, 71, 72, 73, 74, 75, 76, 77] (by decide +kernel) (by decide +kernel)
set_option maxRecDepth 20000 in
theorem gX6_tasteNow_X6_isNeeded : GoodIn wsX6_tasteNow (wsV RX6 95 RX6 yX6_isNeeded wsX6_isNeeded) := goodIn_app (goodIn_of _ (by decide +kernel)) ggX6_tasteNow_X6_isNeeded
set_option maxRecDepth 20000 in
theorem ggX6_tasteNow_X6_drop : GoodIn wsX6_tasteNow wsX6_drop := goodIn_r _ [59, 2, 5, 3, 4, 44, 45, 46, 10, 47, 48, 49, 50, 51, 52, 53, 54, 55, 60, 61, 62, 63, 64, 65, 66, 67, 68, 69, 70, 71, 72, 73, 74, 75, 76, 77] (by decide +kernel) (by decide +kernel)
set_option maxRecDepth 20000 in
theorem gX6_tasteNow_X6_drop : GoodIn wsX6_tasteNow (wsV RX6 104 RX6 yX6_drop wsX6_drop) := goodIn_app (goodIn_of _ (by decide +kernel)) ggX6_tasteNow_X6_drop
theorem dX6_tasteNow_0 : decode cX6_tasteNow 0 = .ok (.aload_n 0, 1) := by decide +kernel
theorem dX6_tasteNow_1 : decode cX6_tasteNow 1 = .ok (.iload_n 1, 1) := by decide +kernel
theorem dX6_tasteNow_2 : decode cX6_tasteNow 2 = .ok (.invokevirtual 133, 3) := by decide +kernel
theorem dX6_tasteNow_5 : decode cX6_tasteNow 5 = .ok (.iconst (-1), 1) := by decide +kernel
theorem dX6_tasteNow_6 : decode cX6_tasteNow 6 = .ok (.if_icmp .eq 9, 3) := by decide +kernel
theorem dX6_tasteNow_9 : decode cX6_tasteNow 9 = .ok (.aload_n 0, 1) := by decide +kernel
theorem dX6_tasteNow_10 : decode cX6_tasteNow 10 = .ok (.iload_n 1, 1) := by decide +kernel
theorem dX6_tasteNow_11 : decode cX6_tasteNow 11 = .ok (.invokevirtual 133, 3) := by decide +kernel
theorem dX6_tasteNow_14 : decode cX6_tasteNow 14 = .ok (.ireturn, 1) := by decide +kernel
theorem dX6_tasteNow_15 : decode cX6_tasteNow 15 = .ok (.aload_n 0, 1) := by decide +kernel
theorem dX6_tasteNow_16 : decode cX6_tasteNow 16 = .ok (.iload_n 1, 1) := by decide +kernel
theorem dX6_tasteNow_17 : decode cX6_tasteNow 17 = .ok (.invokevirtual 98, 3) := by decide +kernel
theorem dX6_tasteNow_20 : decode cX6_tasteNow 20 = .ok (.istore_n 2, 1) := by decide +kernel
theorem dX6_tasteNow_21 : decode cX6_tasteNow 21 = .ok (.aload_n 0, 1) := by decide +kernel
theorem dX6_tasteNow_22 : decode cX6_tasteNow 22 = .ok (.iload_n 1, 1) := by decide +kernel
theorem dX6_tasteNow_23 : decode cX6_tasteNow 23 = .ok (.invokevirtual 101, 3) := by decide +kernel
theorem dX6_tasteNow_26 : decode cX6_tasteNow 26 = .ok (.istore_n 3, 1) := by decide +kernel
theorem dX6_tasteNow_27 : decode cX6_tasteNow 27 = .ok (.aload_n 0, 1) := by decide +kernel
theorem dX6_tasteNow_28 : decode cX6_tasteNow 28 = .ok (.iload_n 2, 1) := by decide +kernel
theorem dX6_tasteNow_29 : decode cX6_tasteNow 29 = .ok (.iload_n 3, 1) := by decide +kernel
theorem dX6_tasteNow_30 : decode cX6_tasteNow 30 = .ok (.iconst (-1), 1) := by decide +kernel
theorem dX6_tasteNow_31 : decode cX6_tasteNow 31 = .ok (.invokevirtual 95, 3) := by decide +kernel
theorem dX6_tasteNow_34 : decode cX6_tasteNow 34 = .ok (.ifCond .ne 5, 3) := by decide +kernel
theorem dX6_tasteNow_37 : decode cX6_tasteNow 37 = .ok (.iconst (-1), 1) := by decide +kernel
theorem dX6_tasteNow_38 : decode cX6_tasteNow 38 = .ok (.ireturn, 1) := by decide +kernel
theorem dX6_tasteNow_39 : decode cX6_tasteNow 39 = .ok (.aload_n 0, 1) := by decide +kernel
theorem dX6_tasteNow_40 : decode cX6_tasteNow 40 = .ok (.getfield 33, 3) := by decide +kernel
theorem dX6_tasteNow_43 : decode cX6_tasteNow 43 = .ok (.aload_n 0, 1) := by decide +kernel
theorem dX6_tasteNow_44 : decode cX6_tasteNow 44 = .ok (.getfield 92, 3) := by decide +kernel
theorem dX6_tasteNow_47 : decode cX6_tasteNow 47 = .ok (.iload_n 1, 1) := by decide +kernel
theorem dX6_tasteNow_48 : decode cX6_tasteNow 48 = .ok (.iastore, 1) := by decide +kernel
theorem dX6_tasteNow_49 : decode cX6_tasteNow 49 = .ok (.aload_n 0, 1) := by decide +kernel
theorem dX6_tasteNow_50 : decode cX6_tasteNow 50 = .ok (.getfield 39, 3) := by decide +kernel
theorem dX6_tasteNow_53 : decode cX6_tasteNow 53 = .ok (.aload_n 0, 1) := by decide +kernel
theorem dX6_tasteNow_54 : decode cX6_tasteNow 54 = .ok (.getfield 92, 3) := by decide +kernel
theorem dX6_tasteNow_57 : decode cX6_tasteNow 57 = .ok (.iload_n 2, 1) := by decide +kernel
theorem dX6_tasteNow_58 : decode cX6_tasteNow 58 = .ok (.iastore, 1) := by decide +kernel
theorem dX6_tasteNow_59 : decode cX6_tasteNow 59 = .ok (.aload_n 0, 1) := by decide +kernel
theorem dX6_tasteNow_60 : decode cX6_tasteNow 60 = .ok (.getfield 42, 3) := by decide +kernel
theorem dX6_tasteNow_63 : decode cX6_tasteNow 63 = .ok (.aload_n 0, 1) := by decide +kernel
theorem dX6_tasteNow_64 : decode cX6_tasteNow 64 = .ok (.getfield 92, 3) := by decide +kernel
theorem dX6_tasteNow_67 : decode cX6_tasteNow 67 = .ok (.iload_n 3, 1) := by decide +kernel
theorem dX6_tasteNow_68 : decode cX6_tasteNow 68 = .ok (.iastore, 1) := by decide +kernel
theorem dX6_tasteNow_69 : decode cX6_tasteNow 69 = .ok (.aload_n 0, 1) := by decide +kernel
theorem dX6_tasteNow_70 : decode cX6_tasteNow 70 = .ok (.getfield 45, 3) := by decide +kernel
theorem dX6_tasteNow_73 : decode cX6_tasteNow 73 = .ok (.aload_n 0, 1) := by decide +kernel
theorem dX6_tasteNow_74 : decode cX6_tasteNow 74 = .ok (.getfield 92, 3) := by decide +kernel
theorem dX6_tasteNow_77 : decode cX6_tasteNow 77 = .ok (.iconst 1, 1) := by decide +kernel
theorem dX6_tasteNow_78 : decode cX6_tasteNow 78 = .ok (.bastore, 1) := by decide +kernel
theorem dX6_tasteNow_79 : decode cX6_tasteNow 79 = .ok (.aload_n 0, 1) := by decide +kernel
theorem dX6_tasteNow_80 : decode cX6_tasteNow 80 = .ok (.getfield 36, 3) := by decide +kernel
theorem dX6_tasteNow_83 : decode cX6_tasteNow 83 = .ok (.aload_n 0, 1) := by decide +kernel
theorem dX6_tasteNow_84 : decode cX6_tasteNow 84 = .ok (.dup, 1) := by decide +kernel
theorem dX6_tasteNow_85 : decode cX6_tasteNow 85 = .ok (.getfield 92, 3) := by decide +kernel
theorem dX6_tasteNow_88 : decode cX6_tasteNow 88 = .ok (.dup_x1, 1) := by decide +kernel
theorem dX6_tasteNow_89 : decode cX6_tasteNow 89 = .ok (.iconst 1, 1) := by decide +kernel
theorem dX6_tasteNow_90 : decode cX6_tasteNow 90 = .ok (.iadd, 1) := by decide +kernel
theorem dX6_tasteNow_91 : decode cX6_tasteNow 91 = .ok (.putfield 92, 3) := by decide +kernel
theorem dX6_tasteNow_94 : decode cX6_tasteNow 94 = .ok (.iconst 0, 1) := by decide +kernel
theorem dX6_tasteNow_95 : decode cX6_tasteNow 95 = .ok (.iastore, 1) := by decide +kernel
theorem dX6_tasteNow_96 : decode cX6_tasteNow 96 = .ok (.aload_n 0, 1) := by decide +kernel
theorem dX6_tasteNow_97 : decode cX6_tasteNow 97 = .ok (.invokevirtual 104, 3) := by decide +kernel
theorem dX6_tasteNow_100 : decode cX6_tasteNow 100 = .ok (.aload_n 0, 1) := by decide +kernel
theorem dX6_tasteNow_101 : decode cX6_tasteNow 101 = .ok (.getfield 92, 3) := by decide +kernel
theorem dX6_tasteNow_104 : decode cX6_tasteNow 104 = .ok (.iconst 1, 1) := by decide +kernel
theorem dX6_tasteNow_105 : decode cX6_tasteNow 105 = .ok (.isub, 1) := by decide +kernel
theorem dX6_tasteNow_106 : decode cX6_tasteNow 106 = .ok (.ireturn, 1) := by decide +kernel
set_option maxRecDepth 20000 in
theorem ggX6_generate_X6_no : GoodIn wsX6_generate wsX6_no := goodIn_r _ [7, 1, 79, 80, 81, 82, 83, 84, 85, 86, 87, 88, 89, 90, 91, 92, 93, 94, 95, 96] (by decide +kernel) (by decide +kernel)
set_option maxRecDepth 20000 in
theorem gX6_generate_X6_no : GoodIn wsX6_generate (wsV RX6 118 RX6 yX6_no wsX6_no) := goodIn_app (goodIn_of _ (by decide +kernel)) ggX6_generate_X6_no
set_option maxRecDepth 20000 in
theorem ggX6_generate_X6_make : GoodIn wsX6_generate wsX6_make := goodIn_r _ [11, 12, 13, 14, 15, 6, 16, 17, 79, 80, 81, 82, 83, 84, 85, 86, 87, 88, 89, 90, 91, 92, 93, 94, 95, 96] (by decide +kernel) (by decide +kernel)
set_option maxRecDepth 20000 in
theorem gX6_generate_X6_make : GoodIn wsX6_generate (wsV RX6 136 RX6 yX6_make wsX6_make) := goodIn_app (goodIn_of _ (by decide +kernel)) ggX6_generate_X6_make
set_option maxRecDepth 20000 in
theorem ggX6_generate_X6_tasteNow : GoodIn wsX6_generate wsX6_tasteNow := goodIn_r _ [21, 22, 2, 23, 24, 25, 26, 27, 28, 29, 6, 30, 31, 32, 33, 34, 35, 36, 37, 38, 39, 40, 41, 42, 43, 44, 45, 46, 47, 48, 49, 50, 51, 52, 53, 54, 55, 56, 57, 58, 59, 60, 61, 62, 63, 64, 65, 66, 67, 68, 69, 70, 71, 72, 73, 74, 75, 76, 77, 78, 79, 80, 81, 82, 83, 84, 85, 86, 87, 88, 89, 90, 91, 92, 93, 94, 95, 96] (by decide +kernel) (by decide +kernel)
set_option maxRecDepth 20000 in
theorem gX6_generate_X6_tasteNow : GoodIn wsX6_generate (wsV RX6 139 RX6 yX6_tasteNow wsX6_tasteNow) := goodIn_app (goodIn_of _ (by decide +kernel)) ggX6_generate_X6_tasteNow
theorem dX6_generate_0 : decode cX6_generate 0 = .ok (.aload_n 0, 1) := by decide +kernel
theorem dX6_generate_1 : decode cX6_generate 1 = .ok (.iconst 0, 1) := by decide +kernel
theorem dX6_generate_2 : decode cX6_generate 2 = .ok (.putfield 57, 3) := by decide +kernel
theorem dX6_generate_5 : decode cX6_generate 5 = .ok (.aload_n 0, 1) := by decide +kernel
theorem dX6_generate_6 : decode cX6_generate 6 = .ok (.getfield 92, 3) := by decide +kernel
theorem dX6_generate_9 : decode cX6_generate 9 = .ok (.bipush 40, 2) := by decide +kernel
theorem dX6_generate_11 : decode cX6_generate 11 = .ok (.if_icmp .ne 9, 3) := by decide +kernel
theorem dX6_generate_14 : decode cX6_generate 14 = .ok (.aload_n 0, 1) := by decide +kernel
theorem dX6_generate_15 : decode cX6_generate 15 = .ok (.iconst 1, 1) := by decide +kernel
theorem dX6_generate_16 : decode cX6_generate 16 = .ok (.invokevirtual 118, 3) := by decide +kernel
theorem dX6_generate_19 : decode cX6_generate 19 = .ok (.ireturn, 1) := by decide +kernel
theorem dX6_generate_20 : decode cX6_generate 20 = .ok (.aload_n 0, 1) := by decide +kernel
theorem dX6_generate_21 : decode cX6_generate 21 = .ok (.invokevirtual 136, 3) := by decide +kernel
theorem dX6_generate_24 : decode cX6_generate 24 = .ok (.istore_n 1, 1) := by decide +kernel
theorem dX6_generate_25 : decode cX6_generate 25 = .ok (.aload_n 0, 1) := by decide +kernel
theorem dX6_generate_26 : decode cX6_generate 26 = .ok (.iload_n 1, 1) := by decide +kernel
theorem dX6_generate_27 : decode cX6_generate 27 = .ok (.invokevirtual 139, 3) := by decide +kernel
theorem dX6_generate_30 : decode cX6_generate 30 = .ok (.pop, 1) := by decide +kernel
theorem dX6_generate_31 : decode cX6_generate 31 = .ok (.iload_n 1, 1) := by decide +kernel
theorem dX6_generate_32 : decode cX6_generate 32 = .ok (.ireturn, 1) := by decide +kernel
set_option maxRecDepth 20000 in
theorem ggX6_energy_X6_keptEdges : GoodIn wsX6_energy wsX6_keptEdges := goodIn_r _ [13, 14, 1, 2, 22, 23, 24, 25, 26, 27, 28, 29, 30, 31, 32, 33, 34, 35, 36, 37, 38, 39] (by decide +kernel) (by decide +kernel)
set_option maxRecDepth 20000 in
theorem gX6_energy_X6_keptEdges : GoodIn wsX6_energy (wsV RX6 85 RX6 yX6_keptEdges wsX6_keptEdges) := goodIn_app (goodIn_of _ (by decide +kernel)) ggX6_energy_X6_keptEdges
set_option maxRecDepth 20000 in
theorem ggX6_energy_X6_count : GoodIn wsX6_energy wsX6_count := goodIn_r _ [17] (by decide +kernel) (by decide +kernel)
set_option maxRecDepth 20000 in
theorem gX6_energy_X6_count : GoodIn wsX6_energy (va_wsS RX6 127 yX6_count wsX6_count) := goodIn_app (goodIn_of _ (by decide +kernel)) ggX6_energy_X6_count
set_option maxRecDepth 20000 in
theorem ggX6_energy_X6_hasResult : GoodIn wsX6_energy wsX6_hasResult := goodIn_r _ [21, 14, 1, 3, 22, 23, 24, 25, 26, 27, 28, 29, 30, 31, 32, 33, 34, 35, 36, 37, 38, 39] (by decide +kernel) (by decide +kernel)
set_option maxRecDepth 20000 in
theorem gX6_energy_X6_hasResult : GoodIn wsX6_energy (wsV RX6 88 RX6 yX6_hasResult wsX6_hasResult) := goodIn_app (goodIn_of _ (by decide +kernel)) ggX6_energy_X6_hasResult
theorem dX6_energy_0 : decode cX6_energy 0 = .ok (.aload_n 0, 1) := by decide +kernel
theorem dX6_energy_1 : decode cX6_energy 1 = .ok (.getfield 45, 3) := by decide +kernel
theorem dX6_energy_4 : decode cX6_energy 4 = .ok (.iload_n 1, 1) := by decide +kernel
theorem dX6_energy_5 : decode cX6_energy 5 = .ok (.baload, 1) := by decide +kernel
theorem dX6_energy_6 : decode cX6_energy 6 = .ok (.ifCond .ne 5, 3) := by decide +kernel
theorem dX6_energy_9 : decode cX6_energy 9 = .ok (.iconst 0, 1) := by decide +kernel
theorem dX6_energy_10 : decode cX6_energy 10 = .ok (.ireturn, 1) := by decide +kernel
theorem dX6_energy_11 : decode cX6_energy 11 = .ok (.iconst 1, 1) := by decide +kernel
theorem dX6_energy_12 : decode cX6_energy 12 = .ok (.iconst 3, 1) := by decide +kernel
theorem dX6_energy_13 : decode cX6_energy 13 = .ok (.aload_n 0, 1) := by decide +kernel
theorem dX6_energy_14 : decode cX6_energy 14 = .ok (.getfield 39, 3) := by decide +kernel
theorem dX6_energy_17 : decode cX6_energy 17 = .ok (.iload_n 1, 1) := by decide +kernel
theorem dX6_energy_18 : decode cX6_energy 18 = .ok (.iaload, 1) := by decide +kernel
theorem dX6_energy_19 : decode cX6_energy 19 = .ok (.aload_n 0, 1) := by decide +kernel
theorem dX6_energy_20 : decode cX6_energy 20 = .ok (.iload_n 1, 1) := by decide +kernel
theorem dX6_energy_21 : decode cX6_energy 21 = .ok (.invokevirtual 85, 3) := by decide +kernel
theorem dX6_energy_24 : decode cX6_energy 24 = .ok (.iconst (-1), 1) := by decide +kernel
theorem dX6_energy_25 : decode cX6_energy 25 = .ok (.ixor, 1) := by decide +kernel
theorem dX6_energy_26 : decode cX6_energy 26 = .ok (.iand, 1) := by decide +kernel
theorem dX6_energy_27 : decode cX6_energy 27 = .ok (.invokestatic 127, 3) := by decide +kernel
theorem dX6_energy_30 : decode cX6_energy 30 = .ok (.imul, 1) := by decide +kernel
theorem dX6_energy_31 : decode cX6_energy 31 = .ok (.iadd, 1) := by decide +kernel
theorem dX6_energy_32 : decode cX6_energy 32 = .ok (.aload_n 0, 1) := by decide +kernel
theorem dX6_energy_33 : decode cX6_energy 33 = .ok (.getfield 42, 3) := by decide +kernel
theorem dX6_energy_36 : decode cX6_energy 36 = .ok (.iload_n 1, 1) := by decide +kernel
theorem dX6_energy_37 : decode cX6_energy 37 = .ok (.iaload, 1) := by decide +kernel
theorem dX6_energy_38 : decode cX6_energy 38 = .ok (.bipush 100, 2) := by decide +kernel
theorem dX6_energy_40 : decode cX6_energy 40 = .ok (.if_icmp .lt 21, 3) := by decide +kernel
theorem dX6_energy_43 : decode cX6_energy 43 = .ok (.aload_n 0, 1) := by decide +kernel
theorem dX6_energy_44 : decode cX6_energy 44 = .ok (.aload_n 0, 1) := by decide +kernel
theorem dX6_energy_45 : decode cX6_energy 45 = .ok (.getfield 42, 3) := by decide +kernel
theorem dX6_energy_48 : decode cX6_energy 48 = .ok (.iload_n 1, 1) := by decide +kernel
theorem dX6_energy_49 : decode cX6_energy 49 = .ok (.iaload, 1) := by decide +kernel
theorem dX6_energy_50 : decode cX6_energy 50 = .ok (.iload_n 1, 1) := by decide +kernel
theorem dX6_energy_51 : decode cX6_energy 51 = .ok (.invokevirtual 88, 3) := by decide +kernel
theorem dX6_energy_54 : decode cX6_energy 54 = .ok (.ifCond .ne 7, 3) := by decide +kernel
theorem dX6_energy_57 : decode cX6_energy 57 = .ok (.iconst 5, 1) := by decide +kernel
theorem dX6_energy_58 : decode cX6_energy 58 = .ok (.goto 4, 3) := by decide +kernel
theorem dX6_energy_61 : decode cX6_energy 61 = .ok (.iconst 0, 1) := by decide +kernel
theorem dX6_energy_62 : decode cX6_energy 62 = .ok (.iadd, 1) := by decide +kernel
theorem dX6_energy_63 : decode cX6_energy 63 = .ok (.istore_n 2, 1) := by decide +kernel
theorem dX6_energy_64 : decode cX6_energy 64 = .ok (.iconst 0, 1) := by decide +kernel
theorem dX6_energy_65 : decode cX6_energy 65 = .ok (.iload_n 2, 1) := by decide +kernel
theorem dX6_energy_66 : decode cX6_energy 66 = .ok (.aload_n 0, 1) := by decide +kernel
theorem dX6_energy_67 : decode cX6_energy 67 = .ok (.getfield 36, 3) := by decide +kernel
theorem dX6_energy_70 : decode cX6_energy 70 = .ok (.iload_n 1, 1) := by decide +kernel
theorem dX6_energy_71 : decode cX6_energy 71 = .ok (.iaload, 1) := by decide +kernel
theorem dX6_energy_72 : decode cX6_energy 72 = .ok (.isub, 1) := by decide +kernel
theorem dX6_energy_73 : decode cX6_energy 73 = .ok (.invokestatic 142, 3) := by decide +kernel
theorem dX6_energy_76 : decode cX6_energy 76 = .ok (.ireturn, 1) := by decide +kernel
set_option maxRecDepth 20000 in
theorem ggX6_mutate_X6_kept : GoodIn wsX6_mutate wsX6_kept := goodIn_r _ [10, 2, 3, 92, 93, 94, 95, 96, 97, 98, 99, 100, 101, 102, 103, 104, 105, 106, 107, 108, 109] (by decide +kernel) (by decide +kernel)
set_option maxRecDepth 20000 in
theorem gX6_mutate_X6_kept : GoodIn wsX6_mutate (wsV RX6 107 RX6 yX6_kept wsX6_kept) := goodIn_app (goodIn_of _ (by decide +kernel)) ggX6_mutate_X6_kept
set_option maxRecDepth 20000 in
theorem ggX6_mutate_X6_no : GoodIn wsX6_mutate wsX6_no := goodIn_r _ [14, 1, 92, 93, 94, 95, 96, 97, 98, 99, 100, 101, 102, 103, 104, 105, 106, 107, 108, 109] (by decide +kernel) (by decide +kernel)
set_option maxRecDepth 20000 in
theorem gX6_mutate_X6_no : GoodIn wsX6_mutate (wsV RX6 118 RX6 yX6_no wsX6_no) := goodIn_app (goodIn_of _ (by decide +kernel)) ggX6_mutate_X6_no
set_option maxRecDepth 20000 in
theorem ggX6_mutate_X6_energy : GoodIn wsX6_mutate wsX6_energy := goodIn_r _ [18, 3, 19, 20, 5, 21, 22, 23, 24, 25, 26, 27, 9, 28, 2, 29, 30, 31, 32, 33, 34, 35, 92, 93, 94, 95, 96, 97, 98, 99, 100, 101, 102, 103, 104, 105, 106, 107, 108, 109] (by decide +kernel) (by decide +kernel)
set_option maxRecDepth 20000 in
theorem gX6_mutate_X6_energy : GoodIn wsX6_mutate (wsV RX6 147 RX6 yX6_energy wsX6_energy) := goodIn_app (goodIn_of _ (by decide +kernel)) ggX6_mutate_X6_energy
set_option maxRecDepth 20000 in
theorem ggX6_mutate_X6_drawn : GoodIn wsX6_mutate wsX6_drawn := goodIn_r _ [39, 40, 92, 93, 94, 95, 96, 97, 98, 99, 100, 101, 102, 103, 104, 105, 106, 107, 108, 109] (by decide +kernel) (by decide +kernel)
set_option maxRecDepth 20000 in
theorem gX6_mutate_X6_drawn : GoodIn wsX6_mutate (wsV RX6 130 RX6 yX6_drawn wsX6_drawn) := goodIn_app (goodIn_of _ (by decide +kernel)) ggX6_mutate_X6_drawn
set_option maxRecDepth 20000 in
theorem ggX6_mutate_X6_valueOf : GoodIn wsX6_mutate wsX6_valueOf := goodIn_r _ [43, 44, 45, 9, 46] (by decide +kernel) (by decide +kernel)
set_option maxRecDepth 20000 in
theorem gX6_mutate_X6_valueOf : GoodIn wsX6_mutate (va_wsS RX6 68 yX6_valueOf wsX6_valueOf) := goodIn_app (goodIn_of _ (by decide +kernel)) ggX6_mutate_X6_valueOf
set_option maxRecDepth 20000 in
theorem ggX6_mutate_X6_with : GoodIn wsX6_mutate wsX6_with := goodIn_r _ [49, 41, 42, 9, 43, 44, 45, 46] (by decide +kernel) (by decide +kernel)
set_option maxRecDepth 20000 in
theorem gX6_mutate_X6_with : GoodIn wsX6_mutate (va_wsS RX6 150 yX6_with wsX6_with) := goodIn_app (goodIn_of _ (by decide +kernel)) ggX6_mutate_X6_with
set_option maxRecDepth 20000 in
theorem ggX6_mutate_X6_tasteNow : GoodIn wsX6_mutate wsX6_tasteNow := goodIn_r _ [53, 4, 2, 19, 20, 3, 5, 54, 55, 56, 9, 57, 58, 59, 60, 61, 62, 63, 64, 65, 66, 67, 68, 69, 70, 71, 72, 73, 74, 75, 76, 77, 78, 79, 41, 42, 43, 44, 45, 46, 80, 81, 82, 83, 84, 85, 86, 87, 25, 26, 27, 28, 32, 33, 34, 35, 88, 89, 90, 91, 92, 93, 94, 95, 96, 97, 98, 99, 100, 101, 102, 103, 104, 105, 106, 107, 108, 109] (by decide +kernel) (by decide +kernel)
set_option maxRecDepth 20000 in
theorem gX6_mutate_X6_tasteNow : GoodIn wsX6_mutate (wsV RX6 139 RX6 yX6_tasteNow wsX6_tasteNow) := goodIn_app (goodIn_of _ (by decide +kernel)) ggX6_mutate_X6_tasteNow
theorem dX6_mutate_0 : decode cX6_mutate 0 = .ok (.aload_n 0, 1) := by decide +kernel
theorem dX6_mutate_1 : decode cX6_mutate 1 = .ok (.iconst 0, 1) := by decide +kernel
theorem dX6_mutate_2 : decode cX6_mutate 2 = .ok (.putfield 57, 3) := by decide +kernel
theorem dX6_mutate_5 : decode cX6_mutate 5 = .ok (.aload_n 0, 1) := by decide +kernel
theorem dX6_mutate_6 : decode cX6_mutate 6 = .ok (.invokevirtual 107, 3) := by decide +kernel
theorem dX6_mutate_9 : decode cX6_mutate 9 = .ok (.ifCond .eq 12, 3) := by decide +kernel
theorem dX6_mutate_12 : decode cX6_mutate 12 = .ok (.aload_n 0, 1) := by decide +kernel
theorem dX6_mutate_13 : decode cX6_mutate 13 = .ok (.getfield 92, 3) := by decide +kernel
theorem dX6_mutate_16 : decode cX6_mutate 16 = .ok (.bipush 40, 2) := by decide +kernel
theorem dX6_mutate_18 : decode cX6_mutate 18 = .ok (.if_icmp .ne 9, 3) := by decide +kernel
theorem dX6_mutate_21 : decode cX6_mutate 21 = .ok (.aload_n 0, 1) := by decide +kernel
theorem dX6_mutate_22 : decode cX6_mutate 22 = .ok (.iconst 1, 1) := by decide +kernel
theorem dX6_mutate_23 : decode cX6_mutate 23 = .ok (.invokevirtual 118, 3) := by decide +kernel
theorem dX6_mutate_26 : decode cX6_mutate 26 = .ok (.ireturn, 1) := by decide +kernel
theorem dX6_mutate_27 : decode cX6_mutate 27 = .ok (.iconst (-1), 1) := by decide +kernel
theorem dX6_mutate_28 : decode cX6_mutate 28 = .ok (.istore_n 1, 1) := by decide +kernel
theorem dX6_mutate_29 : decode cX6_mutate 29 = .ok (.iconst 0, 1) := by decide +kernel
theorem dX6_mutate_30 : decode cX6_mutate 30 = .ok (.istore_n 2, 1) := by decide +kernel
theorem dX6_mutate_31 : decode cX6_mutate 31 = .ok (.iload_n 2, 1) := by decide +kernel
theorem dX6_mutate_32 : decode cX6_mutate 32 = .ok (.aload_n 0, 1) := by decide +kernel
theorem dX6_mutate_33 : decode cX6_mutate 33 = .ok (.getfield 92, 3) := by decide +kernel
theorem dX6_mutate_36 : decode cX6_mutate 36 = .ok (.if_icmp .ge 38, 3) := by decide +kernel
theorem dX6_mutate_39 : decode cX6_mutate 39 = .ok (.aload_n 0, 1) := by decide +kernel
theorem dX6_mutate_40 : decode cX6_mutate 40 = .ok (.getfield 45, 3) := by decide +kernel
theorem dX6_mutate_43 : decode cX6_mutate 43 = .ok (.iload_n 2, 1) := by decide +kernel
theorem dX6_mutate_44 : decode cX6_mutate 44 = .ok (.baload, 1) := by decide +kernel
theorem dX6_mutate_45 : decode cX6_mutate 45 = .ok (.ifCond .eq 23, 3) := by decide +kernel
theorem dX6_mutate_48 : decode cX6_mutate 48 = .ok (.iload_n 1, 1) := by decide +kernel
theorem dX6_mutate_49 : decode cX6_mutate 49 = .ok (.iconst (-1), 1) := by decide +kernel
theorem dX6_mutate_50 : decode cX6_mutate 50 = .ok (.if_icmp .eq 16, 3) := by decide +kernel
theorem dX6_mutate_53 : decode cX6_mutate 53 = .ok (.aload_n 0, 1) := by decide +kernel
theorem dX6_mutate_54 : decode cX6_mutate 54 = .ok (.iload_n 2, 1) := by decide +kernel
theorem dX6_mutate_55 : decode cX6_mutate 55 = .ok (.invokevirtual 147, 3) := by decide +kernel
theorem dX6_mutate_58 : decode cX6_mutate 58 = .ok (.aload_n 0, 1) := by decide +kernel
theorem dX6_mutate_59 : decode cX6_mutate 59 = .ok (.iload_n 1, 1) := by decide +kernel
theorem dX6_mutate_60 : decode cX6_mutate 60 = .ok (.invokevirtual 147, 3) := by decide +kernel
theorem dX6_mutate_63 : decode cX6_mutate 63 = .ok (.if_icmp .le 5, 3) := by decide +kernel
theorem dX6_mutate_66 : decode cX6_mutate 66 = .ok (.iload_n 2, 1) := by decide +kernel
theorem dX6_mutate_67 : decode cX6_mutate 67 = .ok (.istore_n 1, 1) := by decide +kernel
theorem dX6_mutate_68 : decode cX6_mutate 68 = .ok (.iinc 2 1, 3) := by decide +kernel
theorem dX6_mutate_71 : decode cX6_mutate 71 = .ok (.goto (-40), 3) := by decide +kernel
theorem dX6_mutate_74 : decode cX6_mutate 74 = .ok (.aload_n 0, 1) := by decide +kernel
theorem dX6_mutate_75 : decode cX6_mutate 75 = .ok (.iconst 4, 1) := by decide +kernel
theorem dX6_mutate_76 : decode cX6_mutate 76 = .ok (.invokevirtual 130, 3) := by decide +kernel
theorem dX6_mutate_79 : decode cX6_mutate 79 = .ok (.istore_n 2, 1) := by decide +kernel
theorem dX6_mutate_80 : decode cX6_mutate 80 = .ok (.aload_n 0, 1) := by decide +kernel
theorem dX6_mutate_81 : decode cX6_mutate 81 = .ok (.getfield 33, 3) := by decide +kernel
theorem dX6_mutate_84 : decode cX6_mutate 84 = .ok (.iload_n 1, 1) := by decide +kernel
theorem dX6_mutate_85 : decode cX6_mutate 85 = .ok (.iaload, 1) := by decide +kernel
theorem dX6_mutate_86 : decode cX6_mutate 86 = .ok (.iload_n 2, 1) := by decide +kernel
theorem dX6_mutate_87 : decode cX6_mutate 87 = .ok (.aload_n 0, 1) := by decide +kernel
theorem dX6_mutate_88 : decode cX6_mutate 88 = .ok (.getfield 33, 3) := by decide +kernel
theorem dX6_mutate_91 : decode cX6_mutate 91 = .ok (.iload_n 1, 1) := by decide +kernel
theorem dX6_mutate_92 : decode cX6_mutate 92 = .ok (.iaload, 1) := by decide +kernel
theorem dX6_mutate_93 : decode cX6_mutate 93 = .ok (.iload_n 2, 1) := by decide +kernel
theorem dX6_mutate_94 : decode cX6_mutate 94 = .ok (.invokestatic 68, 3) := by decide +kernel
theorem dX6_mutate_97 : decode cX6_mutate 97 = .ok (.iconst 1, 1) := by decide +kernel
theorem dX6_mutate_98 : decode cX6_mutate 98 = .ok (.iadd, 1) := by decide +kernel
theorem dX6_mutate_99 : decode cX6_mutate 99 = .ok (.aload_n 0, 1) := by decide +kernel
theorem dX6_mutate_100 : decode cX6_mutate 100 = .ok (.bipush 9, 2) := by decide +kernel
theorem dX6_mutate_102 : decode cX6_mutate 102 = .ok (.invokevirtual 130, 3) := by decide +kernel
theorem dX6_mutate_105 : decode cX6_mutate 105 = .ok (.iadd, 1) := by decide +kernel
theorem dX6_mutate_106 : decode cX6_mutate 106 = .ok (.bipush 10, 2) := by decide +kernel
theorem dX6_mutate_108 : decode cX6_mutate 108 = .ok (.irem, 1) := by decide +kernel
theorem dX6_mutate_109 : decode cX6_mutate 109 = .ok (.invokestatic 150, 3) := by decide +kernel
theorem dX6_mutate_112 : decode cX6_mutate 112 = .ok (.istore_n 3, 1) := by decide +kernel
theorem dX6_mutate_113 : decode cX6_mutate 113 = .ok (.aload_n 0, 1) := by decide +kernel
theorem dX6_mutate_114 : decode cX6_mutate 114 = .ok (.getfield 36, 3) := by decide +kernel
theorem dX6_mutate_117 : decode cX6_mutate 117 = .ok (.iload_n 1, 1) := by decide +kernel
theorem dX6_mutate_118 : decode cX6_mutate 118 = .ok (.dup2, 1) := by decide +kernel
theorem dX6_mutate_119 : decode cX6_mutate 119 = .ok (.iaload, 1) := by decide +kernel
theorem dX6_mutate_120 : decode cX6_mutate 120 = .ok (.iconst 1, 1) := by decide +kernel
theorem dX6_mutate_121 : decode cX6_mutate 121 = .ok (.iadd, 1) := by decide +kernel
theorem dX6_mutate_122 : decode cX6_mutate 122 = .ok (.iastore, 1) := by decide +kernel
theorem dX6_mutate_123 : decode cX6_mutate 123 = .ok (.aload_n 0, 1) := by decide +kernel
theorem dX6_mutate_124 : decode cX6_mutate 124 = .ok (.iload_n 3, 1) := by decide +kernel
theorem dX6_mutate_125 : decode cX6_mutate 125 = .ok (.invokevirtual 139, 3) := by decide +kernel
theorem dX6_mutate_128 : decode cX6_mutate 128 = .ok (.pop, 1) := by decide +kernel
theorem dX6_mutate_129 : decode cX6_mutate 129 = .ok (.iload_n 3, 1) := by decide +kernel
theorem dX6_mutate_130 : decode cX6_mutate 130 = .ok (.ireturn, 1) := by decide +kernel
set_option maxRecDepth 20000 in
theorem ggX6_taste_X6_isCase : GoodIn wsX6_taste wsX6_isCase := goodIn_r _ [6, 7, 8, 5, 9] (by decide +kernel) (by decide +kernel)
set_option maxRecDepth 20000 in
theorem gX6_taste_X6_isCase : GoodIn wsX6_taste (va_wsS RX6 124 yX6_isCase wsX6_isCase) := goodIn_app (goodIn_of _ (by decide +kernel)) ggX6_taste_X6_isCase
set_option maxRecDepth 20000 in
theorem ggX6_taste_X6_no : GoodIn wsX6_taste wsX6_no := goodIn_r _ [13, 1, 75, 76, 77, 78, 79, 80, 81, 82, 83, 84, 85, 86, 87, 88, 89, 90, 91, 92] (by decide +kernel) (by decide +kernel)
set_option maxRecDepth 20000 in
theorem gX6_taste_X6_no : GoodIn wsX6_taste (wsV RX6 118 RX6 yX6_no wsX6_no) := goodIn_app (goodIn_of _ (by decide +kernel)) ggX6_taste_X6_no
set_option maxRecDepth 20000 in
theorem ggX6_taste_X6_tasteNow : GoodIn wsX6_taste wsX6_tasteNow := goodIn_r _ [17, 18, 2, 19, 20, 21, 22, 23, 24, 25, 5, 26, 27, 28, 29, 30, 31, 32, 33, 34, 35, 36, 37, 38, 39, 40, 41, 42, 43, 44, 45, 46, 47, 48, 49, 50, 51, 52, 53, 54, 55, 56, 57, 58, 59, 60, 61, 62, 63, 64, 65, 66, 67, 68, 69, 70, 71, 72, 73, 74, 75, 76, 77, 78, 79, 80, 81, 82, 83, 84, 85, 86, 87, 88, 89, 90, 91, 92] (by decide +kernel) (by decide +kernel)
set_option maxRecDepth 20000 in
theorem gX6_taste_X6_tasteNow : GoodIn wsX6_taste (wsV RX6 139 RX6 yX6_tasteNow wsX6_tasteNow) := goodIn_app (goodIn_of _ (by decide +kernel)) ggX6_taste_X6_tasteNow
theorem dX6_taste_0 : decode cX6_taste 0 = .ok (.aload_n 0, 1) := by decide +kernel
theorem dX6_taste_1 : decode cX6_taste 1 = .ok (.iconst 0, 1) := by decide +kernel
theorem dX6_taste_2 : decode cX6_taste 2 = .ok (.putfield 57, 3) := by decide +kernel
theorem dX6_taste_5 : decode cX6_taste 5 = .ok (.iload_n 1, 1) := by decide +kernel
theorem dX6_taste_6 : decode cX6_taste 6 = .ok (.invokestatic 124, 3) := by decide +kernel
theorem dX6_taste_9 : decode cX6_taste 9 = .ok (.ifCond .ne 9, 3) := by decide +kernel
theorem dX6_taste_12 : decode cX6_taste 12 = .ok (.aload_n 0, 1) := by decide +kernel
theorem dX6_taste_13 : decode cX6_taste 13 = .ok (.iconst 1, 1) := by decide +kernel
theorem dX6_taste_14 : decode cX6_taste 14 = .ok (.invokevirtual 118, 3) := by decide +kernel
theorem dX6_taste_17 : decode cX6_taste 17 = .ok (.ireturn, 1) := by decide +kernel
theorem dX6_taste_18 : decode cX6_taste 18 = .ok (.aload_n 0, 1) := by decide +kernel
theorem dX6_taste_19 : decode cX6_taste 19 = .ok (.getfield 92, 3) := by decide +kernel
theorem dX6_taste_22 : decode cX6_taste 22 = .ok (.bipush 40, 2) := by decide +kernel
theorem dX6_taste_24 : decode cX6_taste 24 = .ok (.if_icmp .ne 11, 3) := by decide +kernel
theorem dX6_taste_27 : decode cX6_taste 27 = .ok (.aload_n 0, 1) := by decide +kernel
theorem dX6_taste_28 : decode cX6_taste 28 = .ok (.iconst 2, 1) := by decide +kernel
theorem dX6_taste_29 : decode cX6_taste 29 = .ok (.invokevirtual 118, 3) := by decide +kernel
theorem dX6_taste_32 : decode cX6_taste 32 = .ok (.goto 8, 3) := by decide +kernel
theorem dX6_taste_35 : decode cX6_taste 35 = .ok (.aload_n 0, 1) := by decide +kernel
theorem dX6_taste_36 : decode cX6_taste 36 = .ok (.iload_n 1, 1) := by decide +kernel
theorem dX6_taste_37 : decode cX6_taste 37 = .ok (.invokevirtual 139, 3) := by decide +kernel
theorem dX6_taste_40 : decode cX6_taste 40 = .ok (.ireturn, 1) := by decide +kernel
set_option maxRecDepth 20000 in
theorem ggX6_ofNow_X6_energy : GoodIn wsX6_ofNow wsX6_energy := goodIn_r _ [10, 2, 5, 4, 3, 11, 12, 13, 14, 15, 16, 17, 9, 18, 19, 20, 21, 22, 23, 24, 25, 26, 27, 28, 29, 30, 31, 32, 33, 34, 35, 36, 37, 38, 39, 40, 41, 42, 43, 44] (by decide +kernel) (by decide +kernel)
set_option maxRecDepth 20000 in
theorem gX6_ofNow_X6_energy : GoodIn wsX6_ofNow (wsV RX6 147 RX6 yX6_energy wsX6_energy) := goodIn_app (goodIn_of _ (by decide +kernel)) ggX6_ofNow_X6_energy
set_option maxRecDepth 20000 in
theorem ggX6_ofNow_X6_count : GoodIn wsX6_ofNow wsX6_count := goodIn_r _ [22] (by decide +kernel) (by decide +kernel)
set_option maxRecDepth 20000 in
theorem gX6_ofNow_X6_count : GoodIn wsX6_ofNow (va_wsS RX6 127 yX6_count wsX6_count) := goodIn_app (goodIn_of _ (by decide +kernel)) ggX6_ofNow_X6_count
set_option maxRecDepth 20000 in
theorem ggX6_ofNow_X6_keptEdges : GoodIn wsX6_ofNow wsX6_keptEdges := goodIn_r _ [18, 19, 2, 5, 27, 28, 29, 30, 31, 32, 33, 34, 35, 36, 37, 38, 39, 40, 41, 42, 43, 44] (by decide +kernel) (by decide +kernel)
set_option maxRecDepth 20000 in
theorem gX6_ofNow_X6_keptEdges : GoodIn wsX6_ofNow (wsV RX6 85 RX6 yX6_keptEdges wsX6_keptEdges) := goodIn_app (goodIn_of _ (by decide +kernel)) ggX6_ofNow_X6_keptEdges
theorem dX6_ofNow_0 : decode cX6_ofNow 0 = .ok (.iload_n 2, 1) := by decide +kernel
theorem dX6_ofNow_1 : decode cX6_ofNow 1 = .ok (.tableswitch 91 0 5 #[39, 46, 61, 67, 74, 81], 39) := by decide +kernel
theorem dX6_ofNow_40 : decode cX6_ofNow 40 = .ok (.aload_n 0, 1) := by decide +kernel
theorem dX6_ofNow_41 : decode cX6_ofNow 41 = .ok (.getfield 33, 3) := by decide +kernel
theorem dX6_ofNow_44 : decode cX6_ofNow 44 = .ok (.iload_n 1, 1) := by decide +kernel
theorem dX6_ofNow_45 : decode cX6_ofNow 45 = .ok (.iaload, 1) := by decide +kernel
theorem dX6_ofNow_46 : decode cX6_ofNow 46 = .ok (.ireturn, 1) := by decide +kernel
theorem dX6_ofNow_47 : decode cX6_ofNow 47 = .ok (.aload_n 0, 1) := by decide +kernel
theorem dX6_ofNow_48 : decode cX6_ofNow 48 = .ok (.getfield 45, 3) := by decide +kernel
theorem dX6_ofNow_51 : decode cX6_ofNow 51 = .ok (.iload_n 1, 1) := by decide +kernel
theorem dX6_ofNow_52 : decode cX6_ofNow 52 = .ok (.baload, 1) := by decide +kernel
theorem dX6_ofNow_53 : decode cX6_ofNow 53 = .ok (.ifCond .eq 7, 3) := by decide +kernel
theorem dX6_ofNow_56 : decode cX6_ofNow 56 = .ok (.iconst 1, 1) := by decide +kernel
theorem dX6_ofNow_57 : decode cX6_ofNow 57 = .ok (.goto 4, 3) := by decide +kernel
theorem dX6_ofNow_60 : decode cX6_ofNow 60 = .ok (.iconst 0, 1) := by decide +kernel
theorem dX6_ofNow_61 : decode cX6_ofNow 61 = .ok (.ireturn, 1) := by decide +kernel
theorem dX6_ofNow_62 : decode cX6_ofNow 62 = .ok (.aload_n 0, 1) := by decide +kernel
theorem dX6_ofNow_63 : decode cX6_ofNow 63 = .ok (.iload_n 1, 1) := by decide +kernel
theorem dX6_ofNow_64 : decode cX6_ofNow 64 = .ok (.invokevirtual 147, 3) := by decide +kernel
theorem dX6_ofNow_67 : decode cX6_ofNow 67 = .ok (.ireturn, 1) := by decide +kernel
theorem dX6_ofNow_68 : decode cX6_ofNow 68 = .ok (.aload_n 0, 1) := by decide +kernel
theorem dX6_ofNow_69 : decode cX6_ofNow 69 = .ok (.getfield 36, 3) := by decide +kernel
theorem dX6_ofNow_72 : decode cX6_ofNow 72 = .ok (.iload_n 1, 1) := by decide +kernel
theorem dX6_ofNow_73 : decode cX6_ofNow 73 = .ok (.iaload, 1) := by decide +kernel
theorem dX6_ofNow_74 : decode cX6_ofNow 74 = .ok (.ireturn, 1) := by decide +kernel
theorem dX6_ofNow_75 : decode cX6_ofNow 75 = .ok (.aload_n 0, 1) := by decide +kernel
theorem dX6_ofNow_76 : decode cX6_ofNow 76 = .ok (.getfield 42, 3) := by decide +kernel
theorem dX6_ofNow_79 : decode cX6_ofNow 79 = .ok (.iload_n 1, 1) := by decide +kernel
theorem dX6_ofNow_80 : decode cX6_ofNow 80 = .ok (.iaload, 1) := by decide +kernel
theorem dX6_ofNow_81 : decode cX6_ofNow 81 = .ok (.ireturn, 1) := by decide +kernel
theorem dX6_ofNow_82 : decode cX6_ofNow 82 = .ok (.aload_n 0, 1) := by decide +kernel
theorem dX6_ofNow_83 : decode cX6_ofNow 83 = .ok (.getfield 39, 3) := by decide +kernel
theorem dX6_ofNow_86 : decode cX6_ofNow 86 = .ok (.iload_n 1, 1) := by decide +kernel
theorem dX6_ofNow_87 : decode cX6_ofNow 87 = .ok (.iaload, 1) := by decide +kernel
theorem dX6_ofNow_88 : decode cX6_ofNow 88 = .ok (.invokestatic 127, 3) := by decide +kernel
theorem dX6_ofNow_91 : decode cX6_ofNow 91 = .ok (.ireturn, 1) := by decide +kernel
theorem dX6_ofNow_92 : decode cX6_ofNow 92 = .ok (.aload_n 0, 1) := by decide +kernel
theorem dX6_ofNow_93 : decode cX6_ofNow 93 = .ok (.getfield 39, 3) := by decide +kernel
theorem dX6_ofNow_96 : decode cX6_ofNow 96 = .ok (.iload_n 1, 1) := by decide +kernel
theorem dX6_ofNow_97 : decode cX6_ofNow 97 = .ok (.iaload, 1) := by decide +kernel
theorem dX6_ofNow_98 : decode cX6_ofNow 98 = .ok (.aload_n 0, 1) := by decide +kernel
theorem dX6_ofNow_99 : decode cX6_ofNow 99 = .ok (.iload_n 1, 1) := by decide +kernel
theorem dX6_ofNow_100 : decode cX6_ofNow 100 = .ok (.invokevirtual 85, 3) := by decide +kernel
theorem dX6_ofNow_103 : decode cX6_ofNow 103 = .ok (.iconst (-1), 1) := by decide +kernel
theorem dX6_ofNow_104 : decode cX6_ofNow 104 = .ok (.ixor, 1) := by decide +kernel
theorem dX6_ofNow_105 : decode cX6_ofNow 105 = .ok (.iand, 1) := by decide +kernel
theorem dX6_ofNow_106 : decode cX6_ofNow 106 = .ok (.invokestatic 127, 3) := by decide +kernel
theorem dX6_ofNow_109 : decode cX6_ofNow 109 = .ok (.ireturn, 1) := by decide +kernel
set_option maxRecDepth 20000 in
theorem ggX6_ofKnown_X6_isIn : GoodIn wsX6_ofKnown wsX6_isIn := goodIn_r _ [6] (by decide +kernel) (by decide +kernel)
set_option maxRecDepth 20000 in
theorem gX6_ofKnown_X6_isIn : GoodIn wsX6_ofKnown (va_wsS RX6 60 yX6_isIn wsX6_isIn) := goodIn_app (goodIn_of _ (by decide +kernel)) ggX6_ofKnown_X6_isIn
set_option maxRecDepth 20000 in
theorem ggX6_ofKnown_X6_no : GoodIn wsX6_ofKnown wsX6_no := goodIn_r _ [10, 1, 39, 40, 41, 42, 43, 44, 45, 46, 47, 48, 49, 50, 51, 52, 53, 54, 55, 56] (by decide +kernel) (by decide +kernel)
set_option maxRecDepth 20000 in
theorem gX6_ofKnown_X6_no : GoodIn wsX6_ofKnown (wsV RX6 118 RX6 yX6_no wsX6_no) := goodIn_app (goodIn_of _ (by decide +kernel)) ggX6_ofKnown_X6_no
set_option maxRecDepth 20000 in
theorem ggX6_ofKnown_X6_ofNow : GoodIn wsX6_ofKnown wsX6_ofNow := goodIn_r _ [14, 15, 16, 17, 18, 19, 20, 21, 22, 5, 23, 24, 25, 26, 27, 28, 29, 30, 31, 2, 32, 33, 34, 35, 36, 37, 38, 39, 40, 41, 42, 43, 44, 45, 46, 47, 48, 49, 50, 51, 52, 53, 54, 55, 56] (by decide +kernel) (by decide +kernel)
set_option maxRecDepth 20000 in
theorem gX6_ofKnown_X6_ofNow : GoodIn wsX6_ofKnown (wsV RX6 154 RX6 yX6_ofNow wsX6_ofNow) := goodIn_app (goodIn_of _ (by decide +kernel)) ggX6_ofKnown_X6_ofNow
theorem dX6_ofKnown_0 : decode cX6_ofKnown 0 = .ok (.aload_n 0, 1) := by decide +kernel
theorem dX6_ofKnown_1 : decode cX6_ofKnown 1 = .ok (.iconst 0, 1) := by decide +kernel
theorem dX6_ofKnown_2 : decode cX6_ofKnown 2 = .ok (.putfield 57, 3) := by decide +kernel
theorem dX6_ofKnown_5 : decode cX6_ofKnown 5 = .ok (.iload_n 1, 1) := by decide +kernel
theorem dX6_ofKnown_6 : decode cX6_ofKnown 6 = .ok (.iconst 0, 1) := by decide +kernel
theorem dX6_ofKnown_7 : decode cX6_ofKnown 7 = .ok (.aload_n 0, 1) := by decide +kernel
theorem dX6_ofKnown_8 : decode cX6_ofKnown 8 = .ok (.getfield 92, 3) := by decide +kernel
theorem dX6_ofKnown_11 : decode cX6_ofKnown 11 = .ok (.iconst 1, 1) := by decide +kernel
theorem dX6_ofKnown_12 : decode cX6_ofKnown 12 = .ok (.isub, 1) := by decide +kernel
theorem dX6_ofKnown_13 : decode cX6_ofKnown 13 = .ok (.invokestatic 60, 3) := by decide +kernel
theorem dX6_ofKnown_16 : decode cX6_ofKnown 16 = .ok (.ifCond .ne 9, 3) := by decide +kernel
theorem dX6_ofKnown_19 : decode cX6_ofKnown 19 = .ok (.aload_n 0, 1) := by decide +kernel
theorem dX6_ofKnown_20 : decode cX6_ofKnown 20 = .ok (.iconst 1, 1) := by decide +kernel
theorem dX6_ofKnown_21 : decode cX6_ofKnown 21 = .ok (.invokevirtual 118, 3) := by decide +kernel
theorem dX6_ofKnown_24 : decode cX6_ofKnown 24 = .ok (.ireturn, 1) := by decide +kernel
theorem dX6_ofKnown_25 : decode cX6_ofKnown 25 = .ok (.iload_n 2, 1) := by decide +kernel
theorem dX6_ofKnown_26 : decode cX6_ofKnown 26 = .ok (.iconst 0, 1) := by decide +kernel
theorem dX6_ofKnown_27 : decode cX6_ofKnown 27 = .ok (.bipush 6, 2) := by decide +kernel
theorem dX6_ofKnown_29 : decode cX6_ofKnown 29 = .ok (.invokestatic 60, 3) := by decide +kernel
theorem dX6_ofKnown_32 : decode cX6_ofKnown 32 = .ok (.ifCond .eq 12, 3) := by decide +kernel
theorem dX6_ofKnown_35 : decode cX6_ofKnown 35 = .ok (.aload_n 0, 1) := by decide +kernel
theorem dX6_ofKnown_36 : decode cX6_ofKnown 36 = .ok (.iload_n 1, 1) := by decide +kernel
theorem dX6_ofKnown_37 : decode cX6_ofKnown 37 = .ok (.iload_n 2, 1) := by decide +kernel
theorem dX6_ofKnown_38 : decode cX6_ofKnown 38 = .ok (.invokevirtual 154, 3) := by decide +kernel
theorem dX6_ofKnown_41 : decode cX6_ofKnown 41 = .ok (.goto 8, 3) := by decide +kernel
theorem dX6_ofKnown_44 : decode cX6_ofKnown 44 = .ok (.aload_n 0, 1) := by decide +kernel
theorem dX6_ofKnown_45 : decode cX6_ofKnown 45 = .ok (.iconst 2, 1) := by decide +kernel
theorem dX6_ofKnown_46 : decode cX6_ofKnown 46 = .ok (.invokevirtual 118, 3) := by decide +kernel
theorem dX6_ofKnown_49 : decode cX6_ofKnown 49 = .ok (.ireturn, 1) := by decide +kernel
theorem dX6_ofEdgeNow_0 : decode cX6_ofEdgeNow 0 = .ok (.iconst 0, 1) := by decide +kernel
theorem dX6_ofEdgeNow_1 : decode cX6_ofEdgeNow 1 = .ok (.istore_n 3, 1) := by decide +kernel
theorem dX6_ofEdgeNow_2 : decode cX6_ofEdgeNow 2 = .ok (.iconst (-1), 1) := by decide +kernel
theorem dX6_ofEdgeNow_3 : decode cX6_ofEdgeNow 3 = .ok (.istore 4, 2) := by decide +kernel
theorem dX6_ofEdgeNow_5 : decode cX6_ofEdgeNow 5 = .ok (.iconst 0, 1) := by decide +kernel
theorem dX6_ofEdgeNow_6 : decode cX6_ofEdgeNow 6 = .ok (.istore 5, 2) := by decide +kernel
theorem dX6_ofEdgeNow_8 : decode cX6_ofEdgeNow 8 = .ok (.iload 5, 2) := by decide +kernel
theorem dX6_ofEdgeNow_10 : decode cX6_ofEdgeNow 10 = .ok (.aload_n 0, 1) := by decide +kernel
theorem dX6_ofEdgeNow_11 : decode cX6_ofEdgeNow 11 = .ok (.getfield 92, 3) := by decide +kernel
theorem dX6_ofEdgeNow_14 : decode cX6_ofEdgeNow 14 = .ok (.if_icmp .ge 64, 3) := by decide +kernel
theorem dX6_ofEdgeNow_17 : decode cX6_ofEdgeNow 17 = .ok (.aload_n 0, 1) := by decide +kernel
theorem dX6_ofEdgeNow_18 : decode cX6_ofEdgeNow 18 = .ok (.getfield 39, 3) := by decide +kernel
theorem dX6_ofEdgeNow_21 : decode cX6_ofEdgeNow 21 = .ok (.iload 5, 2) := by decide +kernel
theorem dX6_ofEdgeNow_23 : decode cX6_ofEdgeNow 23 = .ok (.iaload, 1) := by decide +kernel
theorem dX6_ofEdgeNow_24 : decode cX6_ofEdgeNow 24 = .ok (.iload_n 1, 1) := by decide +kernel
theorem dX6_ofEdgeNow_25 : decode cX6_ofEdgeNow 25 = .ok (.ishr, 1) := by decide +kernel
theorem dX6_ofEdgeNow_26 : decode cX6_ofEdgeNow 26 = .ok (.iconst 1, 1) := by decide +kernel
theorem dX6_ofEdgeNow_27 : decode cX6_ofEdgeNow 27 = .ok (.iand, 1) := by decide +kernel
theorem dX6_ofEdgeNow_28 : decode cX6_ofEdgeNow 28 = .ok (.ifCond .ne 6, 3) := by decide +kernel
theorem dX6_ofEdgeNow_31 : decode cX6_ofEdgeNow 31 = .ok (.goto 41, 3) := by decide +kernel
theorem dX6_ofEdgeNow_34 : decode cX6_ofEdgeNow 34 = .ok (.iload_n 3, 1) := by decide +kernel
theorem dX6_ofEdgeNow_35 : decode cX6_ofEdgeNow 35 = .ok (.iload_n 2, 1) := by decide +kernel
theorem dX6_ofEdgeNow_36 : decode cX6_ofEdgeNow 36 = .ok (.iconst 1, 1) := by decide +kernel
theorem dX6_ofEdgeNow_37 : decode cX6_ofEdgeNow 37 = .ok (.if_icmp .eq 13, 3) := by decide +kernel
theorem dX6_ofEdgeNow_40 : decode cX6_ofEdgeNow 40 = .ok (.aload_n 0, 1) := by decide +kernel
theorem dX6_ofEdgeNow_41 : decode cX6_ofEdgeNow 41 = .ok (.getfield 45, 3) := by decide +kernel
theorem dX6_ofEdgeNow_44 : decode cX6_ofEdgeNow 44 = .ok (.iload 5, 2) := by decide +kernel
theorem dX6_ofEdgeNow_46 : decode cX6_ofEdgeNow 46 = .ok (.baload, 1) := by decide +kernel
theorem dX6_ofEdgeNow_47 : decode cX6_ofEdgeNow 47 = .ok (.ifCond .eq 7, 3) := by decide +kernel
theorem dX6_ofEdgeNow_50 : decode cX6_ofEdgeNow 50 = .ok (.iconst 1, 1) := by decide +kernel
theorem dX6_ofEdgeNow_51 : decode cX6_ofEdgeNow 51 = .ok (.goto 4, 3) := by decide +kernel
theorem dX6_ofEdgeNow_54 : decode cX6_ofEdgeNow 54 = .ok (.iconst 0, 1) := by decide +kernel
theorem dX6_ofEdgeNow_55 : decode cX6_ofEdgeNow 55 = .ok (.iadd, 1) := by decide +kernel
theorem dX6_ofEdgeNow_56 : decode cX6_ofEdgeNow 56 = .ok (.istore_n 3, 1) := by decide +kernel
theorem dX6_ofEdgeNow_57 : decode cX6_ofEdgeNow 57 = .ok (.iload 4, 2) := by decide +kernel
theorem dX6_ofEdgeNow_59 : decode cX6_ofEdgeNow 59 = .ok (.iconst (-1), 1) := by decide +kernel
theorem dX6_ofEdgeNow_60 : decode cX6_ofEdgeNow 60 = .ok (.if_icmp .ne 8, 3) := by decide +kernel
theorem dX6_ofEdgeNow_63 : decode cX6_ofEdgeNow 63 = .ok (.iload 5, 2) := by decide +kernel
theorem dX6_ofEdgeNow_65 : decode cX6_ofEdgeNow 65 = .ok (.goto 5, 3) := by decide +kernel
theorem dX6_ofEdgeNow_68 : decode cX6_ofEdgeNow 68 = .ok (.iload 4, 2) := by decide +kernel
theorem dX6_ofEdgeNow_70 : decode cX6_ofEdgeNow 70 = .ok (.istore 4, 2) := by decide +kernel
theorem dX6_ofEdgeNow_72 : decode cX6_ofEdgeNow 72 = .ok (.iinc 5 1, 3) := by decide +kernel
theorem dX6_ofEdgeNow_75 : decode cX6_ofEdgeNow 75 = .ok (.goto (-67), 3) := by decide +kernel
theorem dX6_ofEdgeNow_78 : decode cX6_ofEdgeNow 78 = .ok (.iload_n 2, 1) := by decide +kernel
theorem dX6_ofEdgeNow_79 : decode cX6_ofEdgeNow 79 = .ok (.iconst 2, 1) := by decide +kernel
theorem dX6_ofEdgeNow_80 : decode cX6_ofEdgeNow 80 = .ok (.if_icmp .ne 8, 3) := by decide +kernel
theorem dX6_ofEdgeNow_83 : decode cX6_ofEdgeNow 83 = .ok (.iload 4, 2) := by decide +kernel
theorem dX6_ofEdgeNow_85 : decode cX6_ofEdgeNow 85 = .ok (.goto 4, 3) := by decide +kernel
theorem dX6_ofEdgeNow_88 : decode cX6_ofEdgeNow 88 = .ok (.iload_n 3, 1) := by decide +kernel
theorem dX6_ofEdgeNow_89 : decode cX6_ofEdgeNow 89 = .ok (.ireturn, 1) := by decide +kernel
set_option maxRecDepth 20000 in
theorem ggX6_ofEdge_X6_isIn : GoodIn wsX6_ofEdge wsX6_isIn := goodIn_r _ [5] (by decide +kernel) (by decide +kernel)
set_option maxRecDepth 20000 in
theorem gX6_ofEdge_X6_isIn : GoodIn wsX6_ofEdge (va_wsS RX6 60 yX6_isIn wsX6_isIn) := goodIn_app (goodIn_of _ (by decide +kernel)) ggX6_ofEdge_X6_isIn
set_option maxRecDepth 20000 in
theorem ggX6_ofEdge_X6_no : GoodIn wsX6_ofEdge wsX6_no := goodIn_r _ [9, 1, 17, 18, 19, 20, 21, 22, 23, 24, 25, 26, 27, 28, 29, 30, 31, 32, 33, 34] (by decide +kernel) (by decide +kernel)
set_option maxRecDepth 20000 in
theorem gX6_ofEdge_X6_no : GoodIn wsX6_ofEdge (wsV RX6 118 RX6 yX6_no wsX6_no) := goodIn_app (goodIn_of _ (by decide +kernel)) ggX6_ofEdge_X6_no
set_option maxRecDepth 20000 in
theorem ggX6_ofEdge_X6_ofEdgeNow : GoodIn wsX6_ofEdge wsX6_ofEdgeNow := goodIn_r _ [13, 14, 15, 16, 17, 18, 19, 20, 21, 22, 23, 24, 25, 26, 27, 28, 29, 30, 31, 32, 33, 34] (by decide +kernel) (by decide +kernel)
set_option maxRecDepth 20000 in
theorem gX6_ofEdge_X6_ofEdgeNow : GoodIn wsX6_ofEdge (wsV RX6 157 RX6 yX6_ofEdgeNow wsX6_ofEdgeNow) := goodIn_app (goodIn_of _ (by decide +kernel)) ggX6_ofEdge_X6_ofEdgeNow
theorem dX6_ofEdge_0 : decode cX6_ofEdge 0 = .ok (.aload_n 0, 1) := by decide +kernel
theorem dX6_ofEdge_1 : decode cX6_ofEdge 1 = .ok (.iconst 0, 1) := by decide +kernel
theorem dX6_ofEdge_2 : decode cX6_ofEdge 2 = .ok (.putfield 57, 3) := by decide +kernel
theorem dX6_ofEdge_5 : decode cX6_ofEdge 5 = .ok (.iload_n 1, 1) := by decide +kernel
theorem dX6_ofEdge_6 : decode cX6_ofEdge 6 = .ok (.iconst 0, 1) := by decide +kernel
theorem dX6_ofEdge_7 : decode cX6_ofEdge 7 = .ok (.bipush 23, 2) := by decide +kernel
theorem dX6_ofEdge_9 : decode cX6_ofEdge 9 = .ok (.invokestatic 60, 3) := by decide +kernel
theorem dX6_ofEdge_12 : decode cX6_ofEdge 12 = .ok (.ifCond .ne 9, 3) := by decide +kernel
theorem dX6_ofEdge_15 : decode cX6_ofEdge 15 = .ok (.aload_n 0, 1) := by decide +kernel
theorem dX6_ofEdge_16 : decode cX6_ofEdge 16 = .ok (.iconst 1, 1) := by decide +kernel
theorem dX6_ofEdge_17 : decode cX6_ofEdge 17 = .ok (.invokevirtual 118, 3) := by decide +kernel
theorem dX6_ofEdge_20 : decode cX6_ofEdge 20 = .ok (.ireturn, 1) := by decide +kernel
theorem dX6_ofEdge_21 : decode cX6_ofEdge 21 = .ok (.iload_n 2, 1) := by decide +kernel
theorem dX6_ofEdge_22 : decode cX6_ofEdge 22 = .ok (.iconst 0, 1) := by decide +kernel
theorem dX6_ofEdge_23 : decode cX6_ofEdge 23 = .ok (.iconst 2, 1) := by decide +kernel
theorem dX6_ofEdge_24 : decode cX6_ofEdge 24 = .ok (.invokestatic 60, 3) := by decide +kernel
theorem dX6_ofEdge_27 : decode cX6_ofEdge 27 = .ok (.ifCond .eq 12, 3) := by decide +kernel
theorem dX6_ofEdge_30 : decode cX6_ofEdge 30 = .ok (.aload_n 0, 1) := by decide +kernel
theorem dX6_ofEdge_31 : decode cX6_ofEdge 31 = .ok (.iload_n 1, 1) := by decide +kernel
theorem dX6_ofEdge_32 : decode cX6_ofEdge 32 = .ok (.iload_n 2, 1) := by decide +kernel
theorem dX6_ofEdge_33 : decode cX6_ofEdge 33 = .ok (.invokevirtual 157, 3) := by decide +kernel
theorem dX6_ofEdge_36 : decode cX6_ofEdge 36 = .ok (.goto 8, 3) := by decide +kernel
theorem dX6_ofEdge_39 : decode cX6_ofEdge 39 = .ok (.aload_n 0, 1) := by decide +kernel
theorem dX6_ofEdge_40 : decode cX6_ofEdge 40 = .ok (.iconst 2, 1) := by decide +kernel
theorem dX6_ofEdge_41 : decode cX6_ofEdge 41 = .ok (.invokevirtual 118, 3) := by decide +kernel
theorem dX6_ofEdge_44 : decode cX6_ofEdge 44 = .ok (.ireturn, 1) := by decide +kernel
theorem dX6_knownEdges_0 : decode cX6_knownEdges 0 = .ok (.iconst 0, 1) := by decide +kernel
theorem dX6_knownEdges_1 : decode cX6_knownEdges 1 = .ok (.istore_n 1, 1) := by decide +kernel
theorem dX6_knownEdges_2 : decode cX6_knownEdges 2 = .ok (.iconst 0, 1) := by decide +kernel
theorem dX6_knownEdges_3 : decode cX6_knownEdges 3 = .ok (.istore_n 2, 1) := by decide +kernel
theorem dX6_knownEdges_4 : decode cX6_knownEdges 4 = .ok (.iload_n 2, 1) := by decide +kernel
theorem dX6_knownEdges_5 : decode cX6_knownEdges 5 = .ok (.aload_n 0, 1) := by decide +kernel
theorem dX6_knownEdges_6 : decode cX6_knownEdges 6 = .ok (.getfield 92, 3) := by decide +kernel
theorem dX6_knownEdges_9 : decode cX6_knownEdges 9 = .ok (.if_icmp .ge 18, 3) := by decide +kernel
theorem dX6_knownEdges_12 : decode cX6_knownEdges 12 = .ok (.iload_n 1, 1) := by decide +kernel
theorem dX6_knownEdges_13 : decode cX6_knownEdges 13 = .ok (.aload_n 0, 1) := by decide +kernel
theorem dX6_knownEdges_14 : decode cX6_knownEdges 14 = .ok (.getfield 39, 3) := by decide +kernel
theorem dX6_knownEdges_17 : decode cX6_knownEdges 17 = .ok (.iload_n 2, 1) := by decide +kernel
theorem dX6_knownEdges_18 : decode cX6_knownEdges 18 = .ok (.iaload, 1) := by decide +kernel
theorem dX6_knownEdges_19 : decode cX6_knownEdges 19 = .ok (.ior, 1) := by decide +kernel
theorem dX6_knownEdges_20 : decode cX6_knownEdges 20 = .ok (.istore_n 1, 1) := by decide +kernel
theorem dX6_knownEdges_21 : decode cX6_knownEdges 21 = .ok (.iinc 2 1, 3) := by decide +kernel
theorem dX6_knownEdges_24 : decode cX6_knownEdges 24 = .ok (.goto (-20), 3) := by decide +kernel
theorem dX6_knownEdges_27 : decode cX6_knownEdges 27 = .ok (.iload_n 1, 1) := by decide +kernel
theorem dX6_knownEdges_28 : decode cX6_knownEdges 28 = .ok (.ireturn, 1) := by decide +kernel
set_option maxRecDepth 20000 in
theorem ggX6_failures_X6_hasResult : GoodIn wsX6_failures wsX6_hasResult := goodIn_r _ [5, 6, 7, 8, 9, 10, 11, 12, 13, 14, 15, 16, 17, 18, 19, 20, 21, 22, 23, 24, 25, 26] (by decide +kernel) (by decide +kernel)
set_option maxRecDepth 20000 in
theorem gX6_failures_X6_hasResult : GoodIn wsX6_failures (wsV RX6 88 RX6 yX6_hasResult wsX6_hasResult) := goodIn_app (goodIn_of _ (by decide +kernel)) ggX6_failures_X6_hasResult
theorem dX6_failures_0 : decode cX6_failures 0 = .ok (.iconst 0, 1) := by decide +kernel
theorem dX6_failures_1 : decode cX6_failures 1 = .ok (.istore_n 1, 1) := by decide +kernel
theorem dX6_failures_2 : decode cX6_failures 2 = .ok (.iconst 0, 1) := by decide +kernel
theorem dX6_failures_3 : decode cX6_failures 3 = .ok (.istore_n 2, 1) := by decide +kernel
theorem dX6_failures_4 : decode cX6_failures 4 = .ok (.iload_n 2, 1) := by decide +kernel
theorem dX6_failures_5 : decode cX6_failures 5 = .ok (.bipush 12, 2) := by decide +kernel
theorem dX6_failures_7 : decode cX6_failures 7 = .ok (.if_icmp .gt 29, 3) := by decide +kernel
theorem dX6_failures_10 : decode cX6_failures 10 = .ok (.iload_n 1, 1) := by decide +kernel
theorem dX6_failures_11 : decode cX6_failures 11 = .ok (.aload_n 0, 1) := by decide +kernel
theorem dX6_failures_12 : decode cX6_failures 12 = .ok (.bipush 100, 2) := by decide +kernel
theorem dX6_failures_14 : decode cX6_failures 14 = .ok (.iload_n 2, 1) := by decide +kernel
theorem dX6_failures_15 : decode cX6_failures 15 = .ok (.iadd, 1) := by decide +kernel
theorem dX6_failures_16 : decode cX6_failures 16 = .ok (.iconst (-1), 1) := by decide +kernel
theorem dX6_failures_17 : decode cX6_failures 17 = .ok (.invokevirtual 88, 3) := by decide +kernel
theorem dX6_failures_20 : decode cX6_failures 20 = .ok (.ifCond .eq 7, 3) := by decide +kernel
theorem dX6_failures_23 : decode cX6_failures 23 = .ok (.iconst 1, 1) := by decide +kernel
theorem dX6_failures_24 : decode cX6_failures 24 = .ok (.goto 4, 3) := by decide +kernel
theorem dX6_failures_27 : decode cX6_failures 27 = .ok (.iconst 0, 1) := by decide +kernel
theorem dX6_failures_28 : decode cX6_failures 28 = .ok (.iadd, 1) := by decide +kernel
theorem dX6_failures_29 : decode cX6_failures 29 = .ok (.istore_n 1, 1) := by decide +kernel
theorem dX6_failures_30 : decode cX6_failures 30 = .ok (.iinc 2 1, 3) := by decide +kernel
theorem dX6_failures_33 : decode cX6_failures 33 = .ok (.goto (-29), 3) := by decide +kernel
theorem dX6_failures_36 : decode cX6_failures 36 = .ok (.iload_n 1, 1) := by decide +kernel
theorem dX6_failures_37 : decode cX6_failures 37 = .ok (.ireturn, 1) := by decide +kernel
set_option maxRecDepth 20000 in
theorem ggX6_reachable_X6_count : GoodIn wsX6_reachable wsX6_count := goodIn_r _ [5] (by decide +kernel) (by decide +kernel)
set_option maxRecDepth 20000 in
theorem gX6_reachable_X6_count : GoodIn wsX6_reachable (va_wsS RX6 127 yX6_count wsX6_count) := goodIn_app (goodIn_of _ (by decide +kernel)) ggX6_reachable_X6_count
theorem dX6_reachable_0 : decode cX6_reachable 0 = .ok (.iconst 1, 1) := by decide +kernel
theorem dX6_reachable_1 : decode cX6_reachable 1 = .ok (.istore_n 1, 1) := by decide +kernel
theorem dX6_reachable_2 : decode cX6_reachable 2 = .ok (.iconst 0, 1) := by decide +kernel
theorem dX6_reachable_3 : decode cX6_reachable 3 = .ok (.istore_n 2, 1) := by decide +kernel
theorem dX6_reachable_4 : decode cX6_reachable 4 = .ok (.iload_n 2, 1) := by decide +kernel
theorem dX6_reachable_5 : decode cX6_reachable 5 = .ok (.bipush 12, 2) := by decide +kernel
theorem dX6_reachable_7 : decode cX6_reachable 7 = .ok (.if_icmp .ge 55, 3) := by decide +kernel
theorem dX6_reachable_10 : decode cX6_reachable 10 = .ok (.iconst 0, 1) := by decide +kernel
theorem dX6_reachable_11 : decode cX6_reachable 11 = .ok (.istore_n 3, 1) := by decide +kernel
theorem dX6_reachable_12 : decode cX6_reachable 12 = .ok (.iload_n 3, 1) := by decide +kernel
theorem dX6_reachable_13 : decode cX6_reachable 13 = .ok (.bipush 24, 2) := by decide +kernel
theorem dX6_reachable_15 : decode cX6_reachable 15 = .ok (.if_icmp .ge 41, 3) := by decide +kernel
theorem dX6_reachable_18 : decode cX6_reachable 18 = .ok (.iload_n 1, 1) := by decide +kernel
theorem dX6_reachable_19 : decode cX6_reachable 19 = .ok (.iload_n 3, 1) := by decide +kernel
theorem dX6_reachable_20 : decode cX6_reachable 20 = .ok (.iconst 2, 1) := by decide +kernel
theorem dX6_reachable_21 : decode cX6_reachable 21 = .ok (.idiv, 1) := by decide +kernel
theorem dX6_reachable_22 : decode cX6_reachable 22 = .ok (.ishr, 1) := by decide +kernel
theorem dX6_reachable_23 : decode cX6_reachable 23 = .ok (.iconst 1, 1) := by decide +kernel
theorem dX6_reachable_24 : decode cX6_reachable 24 = .ok (.iand, 1) := by decide +kernel
theorem dX6_reachable_25 : decode cX6_reachable 25 = .ok (.iconst 1, 1) := by decide +kernel
theorem dX6_reachable_26 : decode cX6_reachable 26 = .ok (.if_icmp .ne 24, 3) := by decide +kernel
theorem dX6_reachable_29 : decode cX6_reachable 29 = .ok (.aload_n 0, 1) := by decide +kernel
theorem dX6_reachable_30 : decode cX6_reachable 30 = .ok (.getfield 19, 3) := by decide +kernel
theorem dX6_reachable_33 : decode cX6_reachable 33 = .ok (.iload_n 3, 1) := by decide +kernel
theorem dX6_reachable_34 : decode cX6_reachable 34 = .ok (.iaload, 1) := by decide +kernel
theorem dX6_reachable_35 : decode cX6_reachable 35 = .ok (.iconst (-1), 1) := by decide +kernel
theorem dX6_reachable_36 : decode cX6_reachable 36 = .ok (.if_icmp .eq 14, 3) := by decide +kernel
theorem dX6_reachable_39 : decode cX6_reachable 39 = .ok (.iload_n 1, 1) := by decide +kernel
theorem dX6_reachable_40 : decode cX6_reachable 40 = .ok (.iconst 1, 1) := by decide +kernel
theorem dX6_reachable_41 : decode cX6_reachable 41 = .ok (.aload_n 0, 1) := by decide +kernel
theorem dX6_reachable_42 : decode cX6_reachable 42 = .ok (.getfield 19, 3) := by decide +kernel
theorem dX6_reachable_45 : decode cX6_reachable 45 = .ok (.iload_n 3, 1) := by decide +kernel
theorem dX6_reachable_46 : decode cX6_reachable 46 = .ok (.iaload, 1) := by decide +kernel
theorem dX6_reachable_47 : decode cX6_reachable 47 = .ok (.ishl, 1) := by decide +kernel
theorem dX6_reachable_48 : decode cX6_reachable 48 = .ok (.ior, 1) := by decide +kernel
theorem dX6_reachable_49 : decode cX6_reachable 49 = .ok (.istore_n 1, 1) := by decide +kernel
theorem dX6_reachable_50 : decode cX6_reachable 50 = .ok (.iinc 3 1, 3) := by decide +kernel
theorem dX6_reachable_53 : decode cX6_reachable 53 = .ok (.goto (-41), 3) := by decide +kernel
theorem dX6_reachable_56 : decode cX6_reachable 56 = .ok (.iinc 2 1, 3) := by decide +kernel
theorem dX6_reachable_59 : decode cX6_reachable 59 = .ok (.goto (-55), 3) := by decide +kernel
theorem dX6_reachable_62 : decode cX6_reachable 62 = .ok (.iload_n 1, 1) := by decide +kernel
theorem dX6_reachable_63 : decode cX6_reachable 63 = .ok (.invokestatic 127, 3) := by decide +kernel
theorem dX6_reachable_66 : decode cX6_reachable 66 = .ok (.ireturn, 1) := by decide +kernel
set_option maxRecDepth 20000 in
theorem ggX6_manyNow_X6_kept : GoodIn wsX6_manyNow wsX6_kept := goodIn_r _ [8, 1, 9, 36, 37, 38, 39, 40, 41, 42, 43, 44, 45, 46, 47, 48, 49, 50, 51, 52, 53] (by decide +kernel) (by decide +kernel)
set_option maxRecDepth 20000 in
theorem gX6_manyNow_X6_kept : GoodIn wsX6_manyNow (wsV RX6 107 RX6 yX6_kept wsX6_kept) := goodIn_app (goodIn_of _ (by decide +kernel)) ggX6_manyNow_X6_kept
set_option maxRecDepth 20000 in
theorem ggX6_manyNow_X6_keptEdges : GoodIn wsX6_manyNow wsX6_keptEdges := goodIn_r _ [13, 1, 9, 14, 36, 37, 38, 39, 40, 41, 42, 43, 44, 45, 46, 47, 48, 49, 50, 51, 52, 53] (by decide +kernel) (by decide +kernel)
set_option maxRecDepth 20000 in
theorem gX6_manyNow_X6_keptEdges : GoodIn wsX6_manyNow (wsV RX6 85 RX6 yX6_keptEdges wsX6_keptEdges) := goodIn_app (goodIn_of _ (by decide +kernel)) ggX6_manyNow_X6_keptEdges
set_option maxRecDepth 20000 in
theorem ggX6_manyNow_X6_count : GoodIn wsX6_manyNow wsX6_count := goodIn_r _ [17] (by decide +kernel) (by decide +kernel)
set_option maxRecDepth 20000 in
theorem gX6_manyNow_X6_count : GoodIn wsX6_manyNow (va_wsS RX6 127 yX6_count wsX6_count) := goodIn_app (goodIn_of _ (by decide +kernel)) ggX6_manyNow_X6_count
set_option maxRecDepth 20000 in
theorem ggX6_manyNow_X6_knownEdges : GoodIn wsX6_manyNow wsX6_knownEdges := goodIn_r _ [21, 1, 14, 36, 37, 38, 39, 40, 41, 42, 43, 44, 45, 46, 47, 48, 49, 50, 51, 52, 53] (by decide +kernel) (by decide +kernel)
set_option maxRecDepth 20000 in
theorem gX6_manyNow_X6_knownEdges : GoodIn wsX6_manyNow (wsV RX6 160 RX6 yX6_knownEdges wsX6_knownEdges) := goodIn_app (goodIn_of _ (by decide +kernel)) ggX6_manyNow_X6_knownEdges
set_option maxRecDepth 20000 in
theorem ggX6_manyNow_X6_failures : GoodIn wsX6_manyNow wsX6_failures := goodIn_r _ [25, 26, 27, 28, 7, 29, 1, 9, 30, 36, 37, 38, 39, 40, 41, 42, 43, 44, 45, 46, 47, 48, 49, 50, 51, 52, 53] (by decide +kernel) (by decide +kernel)
set_option maxRecDepth 20000 in
theorem gX6_manyNow_X6_failures : GoodIn wsX6_manyNow (wsV RX6 163 RX6 yX6_failures wsX6_failures) := goodIn_app (goodIn_of _ (by decide +kernel)) ggX6_manyNow_X6_failures
set_option maxRecDepth 20000 in
theorem ggX6_manyNow_X6_reachable : GoodIn wsX6_manyNow wsX6_reachable := goodIn_r _ [34, 35, 15, 16, 7, 17, 36, 37, 38, 39, 40, 41, 42, 43, 44, 45, 46, 47, 48, 49, 50, 51, 52, 53] (by decide +kernel) (by decide +kernel)
set_option maxRecDepth 20000 in
theorem gX6_manyNow_X6_reachable : GoodIn wsX6_manyNow (wsV RX6 169 RX6 yX6_reachable wsX6_reachable) := goodIn_app (goodIn_of _ (by decide +kernel)) ggX6_manyNow_X6_reachable
theorem dX6_manyNow_0 : decode cX6_manyNow 0 = .ok (.iload_n 1, 1) := by decide +kernel
theorem dX6_manyNow_1 : decode cX6_manyNow 1 = .ok (.tableswitch 85 0 6 #[43, 48, 53, 62, 70, 75, 80], 43) := by decide +kernel
theorem dX6_manyNow_44 : decode cX6_manyNow 44 = .ok (.aload_n 0, 1) := by decide +kernel
theorem dX6_manyNow_45 : decode cX6_manyNow 45 = .ok (.getfield 92, 3) := by decide +kernel
theorem dX6_manyNow_48 : decode cX6_manyNow 48 = .ok (.ireturn, 1) := by decide +kernel
theorem dX6_manyNow_49 : decode cX6_manyNow 49 = .ok (.aload_n 0, 1) := by decide +kernel
theorem dX6_manyNow_50 : decode cX6_manyNow 50 = .ok (.invokevirtual 107, 3) := by decide +kernel
theorem dX6_manyNow_53 : decode cX6_manyNow 53 = .ok (.ireturn, 1) := by decide +kernel
theorem dX6_manyNow_54 : decode cX6_manyNow 54 = .ok (.aload_n 0, 1) := by decide +kernel
theorem dX6_manyNow_55 : decode cX6_manyNow 55 = .ok (.iconst (-1), 1) := by decide +kernel
theorem dX6_manyNow_56 : decode cX6_manyNow 56 = .ok (.invokevirtual 85, 3) := by decide +kernel
theorem dX6_manyNow_59 : decode cX6_manyNow 59 = .ok (.invokestatic 127, 3) := by decide +kernel
theorem dX6_manyNow_62 : decode cX6_manyNow 62 = .ok (.ireturn, 1) := by decide +kernel
theorem dX6_manyNow_63 : decode cX6_manyNow 63 = .ok (.aload_n 0, 1) := by decide +kernel
theorem dX6_manyNow_64 : decode cX6_manyNow 64 = .ok (.invokevirtual 160, 3) := by decide +kernel
theorem dX6_manyNow_67 : decode cX6_manyNow 67 = .ok (.invokestatic 127, 3) := by decide +kernel
theorem dX6_manyNow_70 : decode cX6_manyNow 70 = .ok (.ireturn, 1) := by decide +kernel
theorem dX6_manyNow_71 : decode cX6_manyNow 71 = .ok (.aload_n 0, 1) := by decide +kernel
theorem dX6_manyNow_72 : decode cX6_manyNow 72 = .ok (.invokevirtual 163, 3) := by decide +kernel
theorem dX6_manyNow_75 : decode cX6_manyNow 75 = .ok (.ireturn, 1) := by decide +kernel
theorem dX6_manyNow_76 : decode cX6_manyNow 76 = .ok (.aload_n 0, 1) := by decide +kernel
theorem dX6_manyNow_77 : decode cX6_manyNow 77 = .ok (.getfield 166, 3) := by decide +kernel
theorem dX6_manyNow_80 : decode cX6_manyNow 80 = .ok (.ireturn, 1) := by decide +kernel
theorem dX6_manyNow_81 : decode cX6_manyNow 81 = .ok (.aload_n 0, 1) := by decide +kernel
theorem dX6_manyNow_82 : decode cX6_manyNow 82 = .ok (.getfield 26, 3) := by decide +kernel
theorem dX6_manyNow_85 : decode cX6_manyNow 85 = .ok (.ireturn, 1) := by decide +kernel
theorem dX6_manyNow_86 : decode cX6_manyNow 86 = .ok (.aload_n 0, 1) := by decide +kernel
theorem dX6_manyNow_87 : decode cX6_manyNow 87 = .ok (.invokevirtual 169, 3) := by decide +kernel
theorem dX6_manyNow_90 : decode cX6_manyNow 90 = .ok (.ireturn, 1) := by decide +kernel
set_option maxRecDepth 20000 in
theorem ggX6_many_X6_isIn : GoodIn wsX6_many wsX6_isIn := goodIn_r _ [5] (by decide +kernel) (by decide +kernel)
set_option maxRecDepth 20000 in
theorem gX6_many_X6_isIn : GoodIn wsX6_many (va_wsS RX6 60 yX6_isIn wsX6_isIn) := goodIn_app (goodIn_of _ (by decide +kernel)) ggX6_many_X6_isIn
set_option maxRecDepth 20000 in
theorem ggX6_many_X6_manyNow : GoodIn wsX6_many wsX6_manyNow := goodIn_r _ [9, 10, 11, 12, 13, 14, 15, 4, 16, 17, 18, 19, 20, 21, 22, 23, 24, 25, 26, 27, 28, 29, 30, 31, 32, 33, 34, 35, 36, 37, 38, 39, 40, 41, 42, 43, 48, 49, 50, 51, 52, 53, 54, 55, 56, 57, 58, 59, 60, 61, 62, 63, 64, 65] (by decide +kernel) (by decide +kernel)
set_option maxRecDepth 20000 in
theorem gX6_many_X6_manyNow : GoodIn wsX6_many (wsV RX6 172 RX6 yX6_manyNow wsX6_manyNow) := goodIn_app (goodIn_of _ (by decide +kernel)) ggX6_many_X6_manyNow
set_option maxRecDepth 20000 in
theorem ggX6_many_X6_no : GoodIn wsX6_many wsX6_no := goodIn_r _ [47, 1, 48, 49, 50, 51, 52, 53, 54, 55, 56, 57, 58, 59, 60, 61, 62, 63, 64, 65] (by decide +kernel) (by decide +kernel)
set_option maxRecDepth 20000 in
theorem gX6_many_X6_no : GoodIn wsX6_many (wsV RX6 118 RX6 yX6_no wsX6_no) := goodIn_app (goodIn_of _ (by decide +kernel)) ggX6_many_X6_no
theorem dX6_many_0 : decode cX6_many 0 = .ok (.aload_n 0, 1) := by decide +kernel
theorem dX6_many_1 : decode cX6_many 1 = .ok (.iconst 0, 1) := by decide +kernel
theorem dX6_many_2 : decode cX6_many 2 = .ok (.putfield 57, 3) := by decide +kernel
theorem dX6_many_5 : decode cX6_many 5 = .ok (.iload_n 1, 1) := by decide +kernel
theorem dX6_many_6 : decode cX6_many 6 = .ok (.iconst 0, 1) := by decide +kernel
theorem dX6_many_7 : decode cX6_many 7 = .ok (.bipush 7, 2) := by decide +kernel
theorem dX6_many_9 : decode cX6_many 9 = .ok (.invokestatic 60, 3) := by decide +kernel
theorem dX6_many_12 : decode cX6_many 12 = .ok (.ifCond .eq 11, 3) := by decide +kernel
theorem dX6_many_15 : decode cX6_many 15 = .ok (.aload_n 0, 1) := by decide +kernel
theorem dX6_many_16 : decode cX6_many 16 = .ok (.iload_n 1, 1) := by decide +kernel
theorem dX6_many_17 : decode cX6_many 17 = .ok (.invokevirtual 172, 3) := by decide +kernel
theorem dX6_many_20 : decode cX6_many 20 = .ok (.goto 8, 3) := by decide +kernel
theorem dX6_many_23 : decode cX6_many 23 = .ok (.aload_n 0, 1) := by decide +kernel
theorem dX6_many_24 : decode cX6_many 24 = .ok (.iconst 1, 1) := by decide +kernel
theorem dX6_many_25 : decode cX6_many 25 = .ok (.invokevirtual 118, 3) := by decide +kernel
theorem dX6_many_28 : decode cX6_many 28 = .ok (.ireturn, 1) := by decide +kernel
set_option maxRecDepth 20000 in
theorem ggX6_meanEnergy_X6_energy : GoodIn wsX6_meanEnergy wsX6_energy := goodIn_r _ [7, 8, 9, 10, 11, 12, 13, 14, 15, 16, 17, 18, 6, 19, 2, 20, 21, 22, 23, 24, 25, 26, 31, 32, 33, 34, 35, 36, 37, 38, 39, 40, 41, 42, 43, 44, 45, 46, 47, 48] (by decide +kernel) (by decide +kernel)
set_option maxRecDepth 20000 in
theorem gX6_meanEnergy_X6_energy : GoodIn wsX6_meanEnergy (wsV RX6 147 RX6 yX6_energy wsX6_energy) := goodIn_app (goodIn_of _ (by decide +kernel)) ggX6_meanEnergy_X6_energy
set_option maxRecDepth 20000 in
theorem ggX6_meanEnergy_X6_kept : GoodIn wsX6_meanEnergy wsX6_kept := goodIn_r _ [30, 2, 8, 31, 32, 33, 34, 35, 36, 37, 38, 39, 40, 41, 42, 43, 44, 45, 46, 47, 48] (by decide +kernel) (by decide +kernel)
set_option maxRecDepth 20000 in
theorem gX6_meanEnergy_X6_kept : GoodIn wsX6_meanEnergy (wsV RX6 107 RX6 yX6_kept wsX6_kept) := goodIn_app (goodIn_of _ (by decide +kernel)) ggX6_meanEnergy_X6_kept
theorem dX6_meanEnergy_0 : decode cX6_meanEnergy 0 = .ok (.aload_n 0, 1) := by decide +kernel
theorem dX6_meanEnergy_1 : decode cX6_meanEnergy 1 = .ok (.iconst 0, 1) := by decide +kernel
theorem dX6_meanEnergy_2 : decode cX6_meanEnergy 2 = .ok (.putfield 57, 3) := by decide +kernel
theorem dX6_meanEnergy_5 : decode cX6_meanEnergy 5 = .ok (.iconst 0, 1) := by decide +kernel
theorem dX6_meanEnergy_6 : decode cX6_meanEnergy 6 = .ok (.istore_n 1, 1) := by decide +kernel
theorem dX6_meanEnergy_7 : decode cX6_meanEnergy 7 = .ok (.iconst 0, 1) := by decide +kernel
theorem dX6_meanEnergy_8 : decode cX6_meanEnergy 8 = .ok (.istore_n 2, 1) := by decide +kernel
theorem dX6_meanEnergy_9 : decode cX6_meanEnergy 9 = .ok (.iload_n 2, 1) := by decide +kernel
theorem dX6_meanEnergy_10 : decode cX6_meanEnergy 10 = .ok (.aload_n 0, 1) := by decide +kernel
theorem dX6_meanEnergy_11 : decode cX6_meanEnergy 11 = .ok (.getfield 92, 3) := by decide +kernel
theorem dX6_meanEnergy_14 : decode cX6_meanEnergy 14 = .ok (.if_icmp .ge 17, 3) := by decide +kernel
theorem dX6_meanEnergy_17 : decode cX6_meanEnergy 17 = .ok (.iload_n 1, 1) := by decide +kernel
theorem dX6_meanEnergy_18 : decode cX6_meanEnergy 18 = .ok (.aload_n 0, 1) := by decide +kernel
theorem dX6_meanEnergy_19 : decode cX6_meanEnergy 19 = .ok (.iload_n 2, 1) := by decide +kernel
theorem dX6_meanEnergy_20 : decode cX6_meanEnergy 20 = .ok (.invokevirtual 147, 3) := by decide +kernel
theorem dX6_meanEnergy_23 : decode cX6_meanEnergy 23 = .ok (.iadd, 1) := by decide +kernel
theorem dX6_meanEnergy_24 : decode cX6_meanEnergy 24 = .ok (.istore_n 1, 1) := by decide +kernel
theorem dX6_meanEnergy_25 : decode cX6_meanEnergy 25 = .ok (.iinc 2 1, 3) := by decide +kernel
theorem dX6_meanEnergy_28 : decode cX6_meanEnergy 28 = .ok (.goto (-19), 3) := by decide +kernel
theorem dX6_meanEnergy_31 : decode cX6_meanEnergy 31 = .ok (.aload_n 0, 1) := by decide +kernel
theorem dX6_meanEnergy_32 : decode cX6_meanEnergy 32 = .ok (.invokevirtual 107, 3) := by decide +kernel
theorem dX6_meanEnergy_35 : decode cX6_meanEnergy 35 = .ok (.ifCond .ne 7, 3) := by decide +kernel
theorem dX6_meanEnergy_38 : decode cX6_meanEnergy 38 = .ok (.dconst 0, 1) := by decide +kernel
theorem dX6_meanEnergy_39 : decode cX6_meanEnergy 39 = .ok (.goto 11, 3) := by decide +kernel
theorem dX6_meanEnergy_42 : decode cX6_meanEnergy 42 = .ok (.iload_n 1, 1) := by decide +kernel
theorem dX6_meanEnergy_43 : decode cX6_meanEnergy 43 = .ok (.i2d, 1) := by decide +kernel
theorem dX6_meanEnergy_44 : decode cX6_meanEnergy 44 = .ok (.aload_n 0, 1) := by decide +kernel
theorem dX6_meanEnergy_45 : decode cX6_meanEnergy 45 = .ok (.invokevirtual 107, 3) := by decide +kernel
theorem dX6_meanEnergy_48 : decode cX6_meanEnergy 48 = .ok (.i2d, 1) := by decide +kernel
theorem dX6_meanEnergy_49 : decode cX6_meanEnergy 49 = .ok (.ddiv, 1) := by decide +kernel
theorem dX6_meanEnergy_50 : decode cX6_meanEnergy 50 = .ok (.dreturn, 1) := by decide +kernel
set_option maxRecDepth 20000 in
theorem ggX6_shrinkNow_X6_resultOf : GoodIn wsX6_shrinkNow wsX6_resultOf := goodIn_r _ [5, 6, 7, 8, 4, 9, 10, 11, 12, 13, 14, 15, 16, 17, 18, 19, 20, 21, 22, 23, 24, 25, 26, 27, 28, 29, 33, 34, 35, 36, 37, 38, 39, 40, 41, 42, 43, 44, 45, 46, 47, 48, 49, 50] (by decide +kernel) (by decide +kernel)
set_option maxRecDepth 20000 in
theorem gX6_shrinkNow_X6_resultOf : GoodIn wsX6_shrinkNow (wsV RX6 101 RX6 yX6_resultOf wsX6_resultOf) := goodIn_app (goodIn_of _ (by decide +kernel)) ggX6_shrinkNow_X6_resultOf
set_option maxRecDepth 20000 in
theorem ggX6_shrinkNow_X6_with : GoodIn wsX6_shrinkNow wsX6_with := goodIn_r _ [32, 24, 25, 4, 26, 27, 28, 29] (by decide +kernel) (by decide +kernel)
set_option maxRecDepth 20000 in
theorem gX6_shrinkNow_X6_with : GoodIn wsX6_shrinkNow (va_wsS RX6 150 yX6_with wsX6_with) := goodIn_app (goodIn_of _ (by decide +kernel)) ggX6_shrinkNow_X6_with
theorem dX6_shrinkNow_0 : decode cX6_shrinkNow 0 = .ok (.aload_n 0, 1) := by decide +kernel
theorem dX6_shrinkNow_1 : decode cX6_shrinkNow 1 = .ok (.iload_n 1, 1) := by decide +kernel
theorem dX6_shrinkNow_2 : decode cX6_shrinkNow 2 = .ok (.invokevirtual 101, 3) := by decide +kernel
theorem dX6_shrinkNow_5 : decode cX6_shrinkNow 5 = .ok (.istore_n 2, 1) := by decide +kernel
theorem dX6_shrinkNow_6 : decode cX6_shrinkNow 6 = .ok (.iload_n 1, 1) := by decide +kernel
theorem dX6_shrinkNow_7 : decode cX6_shrinkNow 7 = .ok (.istore_n 3, 1) := by decide +kernel
theorem dX6_shrinkNow_8 : decode cX6_shrinkNow 8 = .ok (.iconst (-1), 1) := by decide +kernel
theorem dX6_shrinkNow_9 : decode cX6_shrinkNow 9 = .ok (.istore 4, 2) := by decide +kernel
theorem dX6_shrinkNow_11 : decode cX6_shrinkNow 11 = .ok (.iload_n 3, 1) := by decide +kernel
theorem dX6_shrinkNow_12 : decode cX6_shrinkNow 12 = .ok (.iload 4, 2) := by decide +kernel
theorem dX6_shrinkNow_14 : decode cX6_shrinkNow 14 = .ok (.if_icmp .eq 58, 3) := by decide +kernel
theorem dX6_shrinkNow_17 : decode cX6_shrinkNow 17 = .ok (.iload_n 3, 1) := by decide +kernel
theorem dX6_shrinkNow_18 : decode cX6_shrinkNow 18 = .ok (.istore 4, 2) := by decide +kernel
theorem dX6_shrinkNow_20 : decode cX6_shrinkNow 20 = .ok (.iconst 0, 1) := by decide +kernel
theorem dX6_shrinkNow_21 : decode cX6_shrinkNow 21 = .ok (.istore 5, 2) := by decide +kernel
theorem dX6_shrinkNow_23 : decode cX6_shrinkNow 23 = .ok (.iload 5, 2) := by decide +kernel
theorem dX6_shrinkNow_25 : decode cX6_shrinkNow 25 = .ok (.iconst 4, 1) := by decide +kernel
theorem dX6_shrinkNow_26 : decode cX6_shrinkNow 26 = .ok (.if_icmp .ge 43, 3) := by decide +kernel
theorem dX6_shrinkNow_29 : decode cX6_shrinkNow 29 = .ok (.iconst 0, 1) := by decide +kernel
theorem dX6_shrinkNow_30 : decode cX6_shrinkNow 30 = .ok (.istore 6, 2) := by decide +kernel
theorem dX6_shrinkNow_32 : decode cX6_shrinkNow 32 = .ok (.aload_n 0, 1) := by decide +kernel
theorem dX6_shrinkNow_33 : decode cX6_shrinkNow 33 = .ok (.iload_n 3, 1) := by decide +kernel
theorem dX6_shrinkNow_34 : decode cX6_shrinkNow 34 = .ok (.iload 5, 2) := by decide +kernel
theorem dX6_shrinkNow_36 : decode cX6_shrinkNow 36 = .ok (.iload 6, 2) := by decide +kernel
theorem dX6_shrinkNow_38 : decode cX6_shrinkNow 38 = .ok (.invokestatic 150, 3) := by decide +kernel
theorem dX6_shrinkNow_41 : decode cX6_shrinkNow 41 = .ok (.invokevirtual 101, 3) := by decide +kernel
theorem dX6_shrinkNow_44 : decode cX6_shrinkNow 44 = .ok (.iload_n 2, 1) := by decide +kernel
theorem dX6_shrinkNow_45 : decode cX6_shrinkNow 45 = .ok (.if_icmp .eq 9, 3) := by decide +kernel
theorem dX6_shrinkNow_48 : decode cX6_shrinkNow 48 = .ok (.iinc 6 1, 3) := by decide +kernel
theorem dX6_shrinkNow_51 : decode cX6_shrinkNow 51 = .ok (.goto (-19), 3) := by decide +kernel
theorem dX6_shrinkNow_54 : decode cX6_shrinkNow 54 = .ok (.iload_n 3, 1) := by decide +kernel
theorem dX6_shrinkNow_55 : decode cX6_shrinkNow 55 = .ok (.iload 5, 2) := by decide +kernel
theorem dX6_shrinkNow_57 : decode cX6_shrinkNow 57 = .ok (.iload 6, 2) := by decide +kernel
theorem dX6_shrinkNow_59 : decode cX6_shrinkNow 59 = .ok (.invokestatic 150, 3) := by decide +kernel
theorem dX6_shrinkNow_62 : decode cX6_shrinkNow 62 = .ok (.istore_n 3, 1) := by decide +kernel
theorem dX6_shrinkNow_63 : decode cX6_shrinkNow 63 = .ok (.iinc 5 1, 3) := by decide +kernel
theorem dX6_shrinkNow_66 : decode cX6_shrinkNow 66 = .ok (.goto (-43), 3) := by decide +kernel
theorem dX6_shrinkNow_69 : decode cX6_shrinkNow 69 = .ok (.goto (-58), 3) := by decide +kernel
theorem dX6_shrinkNow_72 : decode cX6_shrinkNow 72 = .ok (.iload_n 3, 1) := by decide +kernel
theorem dX6_shrinkNow_73 : decode cX6_shrinkNow 73 = .ok (.ireturn, 1) := by decide +kernel
set_option maxRecDepth 20000 in
theorem ggX6_shrink_X6_isCase : GoodIn wsX6_shrink wsX6_isCase := goodIn_r _ [5, 6, 7, 4, 8] (by decide +kernel) (by decide +kernel)
set_option maxRecDepth 20000 in
theorem gX6_shrink_X6_isCase : GoodIn wsX6_shrink (va_wsS RX6 124 yX6_isCase wsX6_isCase) := goodIn_app (goodIn_of _ (by decide +kernel)) ggX6_shrink_X6_isCase
set_option maxRecDepth 20000 in
theorem ggX6_shrink_X6_resultOf : GoodIn wsX6_shrink wsX6_resultOf := goodIn_r _ [12, 13, 14, 15, 4, 16, 17, 18, 19, 20, 21, 22, 23, 24, 25, 26, 27, 28, 29, 30, 31, 32, 33, 34, 35, 36, 48, 49, 50, 51, 52, 53, 54, 55, 56, 57, 58, 59, 60, 61, 62, 63, 64, 65] (by decide +kernel) (by decide +kernel)
set_option maxRecDepth 20000 in
theorem gX6_shrink_X6_resultOf : GoodIn wsX6_shrink (wsV RX6 101 RX6 yX6_resultOf wsX6_resultOf) := goodIn_app (goodIn_of _ (by decide +kernel)) ggX6_shrink_X6_resultOf
set_option maxRecDepth 20000 in
theorem ggX6_shrink_X6_shrinkNow : GoodIn wsX6_shrink wsX6_shrinkNow := goodIn_r _ [40, 9, 10, 11, 4, 12, 13, 14, 15, 16, 17, 18, 19, 20, 21, 22, 23, 24, 25, 26, 27, 28, 29, 30, 31, 32, 33, 34, 35, 36, 41, 42, 43, 48, 49, 50, 51, 52, 53, 54, 55, 56, 57, 58, 59, 60, 61, 62, 63, 64, 65] (by decide +kernel) (by decide +kernel)
set_option maxRecDepth 20000 in
theorem gX6_shrink_X6_shrinkNow : GoodIn wsX6_shrink (wsV RX6 175 RX6 yX6_shrinkNow wsX6_shrinkNow) := goodIn_app (goodIn_of _ (by decide +kernel)) ggX6_shrink_X6_shrinkNow
set_option maxRecDepth 20000 in
theorem ggX6_shrink_X6_no : GoodIn wsX6_shrink wsX6_no := goodIn_r _ [47, 1, 48, 49, 50, 51, 52, 53, 54, 55, 56, 57, 58, 59, 60, 61, 62, 63, 64, 65] (by decide +kernel) (by decide +kernel)
set_option maxRecDepth 20000 in
theorem gX6_shrink_X6_no : GoodIn wsX6_shrink (wsV RX6 118 RX6 yX6_no wsX6_no) := goodIn_app (goodIn_of _ (by decide +kernel)) ggX6_shrink_X6_no
theorem dX6_shrink_0 : decode cX6_shrink 0 = .ok (.aload_n 0, 1) := by decide +kernel
theorem dX6_shrink_1 : decode cX6_shrink 1 = .ok (.iconst 0, 1) := by decide +kernel
theorem dX6_shrink_2 : decode cX6_shrink 2 = .ok (.putfield 57, 3) := by decide +kernel
theorem dX6_shrink_5 : decode cX6_shrink 5 = .ok (.iload_n 1, 1) := by decide +kernel
theorem dX6_shrink_6 : decode cX6_shrink 6 = .ok (.invokestatic 124, 3) := by decide +kernel
theorem dX6_shrink_9 : decode cX6_shrink 9 = .ok (.ifCond .eq 21, 3) := by decide +kernel
theorem dX6_shrink_12 : decode cX6_shrink 12 = .ok (.aload_n 0, 1) := by decide +kernel
theorem dX6_shrink_13 : decode cX6_shrink 13 = .ok (.iload_n 1, 1) := by decide +kernel
theorem dX6_shrink_14 : decode cX6_shrink 14 = .ok (.invokevirtual 101, 3) := by decide +kernel
theorem dX6_shrink_17 : decode cX6_shrink 17 = .ok (.bipush 100, 2) := by decide +kernel
theorem dX6_shrink_19 : decode cX6_shrink 19 = .ok (.if_icmp .lt 11, 3) := by decide +kernel
theorem dX6_shrink_22 : decode cX6_shrink 22 = .ok (.aload_n 0, 1) := by decide +kernel
theorem dX6_shrink_23 : decode cX6_shrink 23 = .ok (.iload_n 1, 1) := by decide +kernel
theorem dX6_shrink_24 : decode cX6_shrink 24 = .ok (.invokevirtual 175, 3) := by decide +kernel
theorem dX6_shrink_27 : decode cX6_shrink 27 = .ok (.goto 8, 3) := by decide +kernel
theorem dX6_shrink_30 : decode cX6_shrink 30 = .ok (.aload_n 0, 1) := by decide +kernel
theorem dX6_shrink_31 : decode cX6_shrink 31 = .ok (.iconst 1, 1) := by decide +kernel
theorem dX6_shrink_32 : decode cX6_shrink 32 = .ok (.invokevirtual 118, 3) := by decide +kernel
theorem dX6_shrink_35 : decode cX6_shrink 35 = .ok (.ireturn, 1) := by decide +kernel
set_option maxRecDepth 20000 in
theorem ggX6_relation_X6_isIn : GoodIn wsX6_relation wsX6_isIn := goodIn_r _ [9] (by decide +kernel) (by decide +kernel)
set_option maxRecDepth 20000 in
theorem gX6_relation_X6_isIn : GoodIn wsX6_relation (va_wsS RX6 60 yX6_isIn wsX6_isIn) := goodIn_app (goodIn_of _ (by decide +kernel)) ggX6_relation_X6_isIn
set_option maxRecDepth 20000 in
theorem ggX6_relation_X6_no : GoodIn wsX6_relation wsX6_no := goodIn_r _ [13, 1, 17, 18, 19, 20, 21, 22, 23, 24, 25, 26, 27, 28, 29, 30, 31, 32, 33, 34] (by decide +kernel) (by decide +kernel)
set_option maxRecDepth 20000 in
theorem gX6_relation_X6_no : GoodIn wsX6_relation (wsV RX6 118 RX6 yX6_no wsX6_no) := goodIn_app (goodIn_of _ (by decide +kernel)) ggX6_relation_X6_no
set_option maxRecDepth 20000 in
theorem ggX6_relation_X6_isSlot : GoodIn wsX6_relation wsX6_isSlot := goodIn_r _ [16, 6, 7, 8, 9] (by decide +kernel) (by decide +kernel)
set_option maxRecDepth 20000 in
theorem gX6_relation_X6_isSlot : GoodIn wsX6_relation (va_wsS RX6 115 yX6_isSlot wsX6_isSlot) := goodIn_app (goodIn_of _ (by decide +kernel)) ggX6_relation_X6_isSlot
theorem dX6_relation_0 : decode cX6_relation 0 = .ok (.aload_n 0, 1) := by decide +kernel
theorem dX6_relation_1 : decode cX6_relation 1 = .ok (.iconst 0, 1) := by decide +kernel
theorem dX6_relation_2 : decode cX6_relation 2 = .ok (.putfield 57, 3) := by decide +kernel
theorem dX6_relation_5 : decode cX6_relation 5 = .ok (.iload_n 1, 1) := by decide +kernel
theorem dX6_relation_6 : decode cX6_relation 6 = .ok (.iconst 0, 1) := by decide +kernel
theorem dX6_relation_7 : decode cX6_relation 7 = .ok (.iconst 1, 1) := by decide +kernel
theorem dX6_relation_8 : decode cX6_relation 8 = .ok (.invokestatic 60, 3) := by decide +kernel
theorem dX6_relation_11 : decode cX6_relation 11 = .ok (.ifCond .eq 12, 3) := by decide +kernel
theorem dX6_relation_14 : decode cX6_relation 14 = .ok (.iload_n 1, 1) := by decide +kernel
theorem dX6_relation_15 : decode cX6_relation 15 = .ok (.ifCond .ne 14, 3) := by decide +kernel
theorem dX6_relation_18 : decode cX6_relation 18 = .ok (.iload_n 2, 1) := by decide +kernel
theorem dX6_relation_19 : decode cX6_relation 19 = .ok (.iload_n 3, 1) := by decide +kernel
theorem dX6_relation_20 : decode cX6_relation 20 = .ok (.if_icmp .ne 9, 3) := by decide +kernel
theorem dX6_relation_23 : decode cX6_relation 23 = .ok (.aload_n 0, 1) := by decide +kernel
theorem dX6_relation_24 : decode cX6_relation 24 = .ok (.iconst 1, 1) := by decide +kernel
theorem dX6_relation_25 : decode cX6_relation 25 = .ok (.invokevirtual 118, 3) := by decide +kernel
theorem dX6_relation_28 : decode cX6_relation 28 = .ok (.ireturn, 1) := by decide +kernel
theorem dX6_relation_29 : decode cX6_relation 29 = .ok (.iload_n 2, 1) := by decide +kernel
theorem dX6_relation_30 : decode cX6_relation 30 = .ok (.invokestatic 115, 3) := by decide +kernel
theorem dX6_relation_33 : decode cX6_relation 33 = .ok (.ifCond .eq 14, 3) := by decide +kernel
theorem dX6_relation_36 : decode cX6_relation 36 = .ok (.iload_n 1, 1) := by decide +kernel
theorem dX6_relation_37 : decode cX6_relation 37 = .ok (.ifCond .ne 16, 3) := by decide +kernel
theorem dX6_relation_40 : decode cX6_relation 40 = .ok (.iload_n 3, 1) := by decide +kernel
theorem dX6_relation_41 : decode cX6_relation 41 = .ok (.invokestatic 115, 3) := by decide +kernel
theorem dX6_relation_44 : decode cX6_relation 44 = .ok (.ifCond .ne 9, 3) := by decide +kernel
theorem dX6_relation_47 : decode cX6_relation 47 = .ok (.aload_n 0, 1) := by decide +kernel
theorem dX6_relation_48 : decode cX6_relation 48 = .ok (.iconst 2, 1) := by decide +kernel
theorem dX6_relation_49 : decode cX6_relation 49 = .ok (.invokevirtual 118, 3) := by decide +kernel
theorem dX6_relation_52 : decode cX6_relation 52 = .ok (.ireturn, 1) := by decide +kernel
theorem dX6_relation_53 : decode cX6_relation 53 = .ok (.aload_n 0, 1) := by decide +kernel
theorem dX6_relation_54 : decode cX6_relation 54 = .ok (.getfield 166, 3) := by decide +kernel
theorem dX6_relation_57 : decode cX6_relation 57 = .ok (.bipush 6, 2) := by decide +kernel
theorem dX6_relation_59 : decode cX6_relation 59 = .ok (.if_icmp .ne 9, 3) := by decide +kernel
theorem dX6_relation_62 : decode cX6_relation 62 = .ok (.aload_n 0, 1) := by decide +kernel
theorem dX6_relation_63 : decode cX6_relation 63 = .ok (.iconst 3, 1) := by decide +kernel
theorem dX6_relation_64 : decode cX6_relation 64 = .ok (.invokevirtual 118, 3) := by decide +kernel
theorem dX6_relation_67 : decode cX6_relation 67 = .ok (.ireturn, 1) := by decide +kernel
theorem dX6_relation_68 : decode cX6_relation 68 = .ok (.aload_n 0, 1) := by decide +kernel
theorem dX6_relation_69 : decode cX6_relation 69 = .ok (.getfield 48, 3) := by decide +kernel
theorem dX6_relation_72 : decode cX6_relation 72 = .ok (.aload_n 0, 1) := by decide +kernel
theorem dX6_relation_73 : decode cX6_relation 73 = .ok (.getfield 166, 3) := by decide +kernel
theorem dX6_relation_76 : decode cX6_relation 76 = .ok (.iload_n 1, 1) := by decide +kernel
theorem dX6_relation_77 : decode cX6_relation 77 = .ok (.iastore, 1) := by decide +kernel
theorem dX6_relation_78 : decode cX6_relation 78 = .ok (.aload_n 0, 1) := by decide +kernel
theorem dX6_relation_79 : decode cX6_relation 79 = .ok (.getfield 51, 3) := by decide +kernel
theorem dX6_relation_82 : decode cX6_relation 82 = .ok (.aload_n 0, 1) := by decide +kernel
theorem dX6_relation_83 : decode cX6_relation 83 = .ok (.getfield 166, 3) := by decide +kernel
theorem dX6_relation_86 : decode cX6_relation 86 = .ok (.iload_n 2, 1) := by decide +kernel
theorem dX6_relation_87 : decode cX6_relation 87 = .ok (.iastore, 1) := by decide +kernel
theorem dX6_relation_88 : decode cX6_relation 88 = .ok (.aload_n 0, 1) := by decide +kernel
theorem dX6_relation_89 : decode cX6_relation 89 = .ok (.getfield 54, 3) := by decide +kernel
theorem dX6_relation_92 : decode cX6_relation 92 = .ok (.aload_n 0, 1) := by decide +kernel
theorem dX6_relation_93 : decode cX6_relation 93 = .ok (.getfield 166, 3) := by decide +kernel
theorem dX6_relation_96 : decode cX6_relation 96 = .ok (.iload_n 3, 1) := by decide +kernel
theorem dX6_relation_97 : decode cX6_relation 97 = .ok (.iastore, 1) := by decide +kernel
theorem dX6_relation_98 : decode cX6_relation 98 = .ok (.aload_n 0, 1) := by decide +kernel
theorem dX6_relation_99 : decode cX6_relation 99 = .ok (.dup, 1) := by decide +kernel
theorem dX6_relation_100 : decode cX6_relation 100 = .ok (.getfield 166, 3) := by decide +kernel
theorem dX6_relation_103 : decode cX6_relation 103 = .ok (.dup_x1, 1) := by decide +kernel
theorem dX6_relation_104 : decode cX6_relation 104 = .ok (.iconst 1, 1) := by decide +kernel
theorem dX6_relation_105 : decode cX6_relation 105 = .ok (.iadd, 1) := by decide +kernel
theorem dX6_relation_106 : decode cX6_relation 106 = .ok (.putfield 166, 3) := by decide +kernel
theorem dX6_relation_109 : decode cX6_relation 109 = .ok (.ireturn, 1) := by decide +kernel
set_option maxRecDepth 20000 in
theorem ggX6_breaksNow_X6_valueOf : GoodIn wsX6_breaksNow wsX6_valueOf := goodIn_r _ [11, 12, 13, 10, 14] (by decide +kernel) (by decide +kernel)
set_option maxRecDepth 20000 in
theorem gX6_breaksNow_X6_valueOf : GoodIn wsX6_breaksNow (va_wsS RX6 68 yX6_valueOf wsX6_valueOf) := goodIn_app (goodIn_of _ (by decide +kernel)) ggX6_breaksNow_X6_valueOf
set_option maxRecDepth 20000 in
theorem ggX6_breaksNow_X6_with : GoodIn wsX6_breaksNow wsX6_with := goodIn_r _ [17, 8, 9, 10, 11, 12, 13, 14] (by decide +kernel) (by decide +kernel)
set_option maxRecDepth 20000 in
theorem gX6_breaksNow_X6_with : GoodIn wsX6_breaksNow (va_wsS RX6 150 yX6_with wsX6_with) := goodIn_app (goodIn_of _ (by decide +kernel)) ggX6_breaksNow_X6_with
set_option maxRecDepth 20000 in
theorem ggX6_breaksNow_X6_resultOf : GoodIn wsX6_breaksNow wsX6_resultOf := goodIn_r _ [21, 22, 23, 24, 10, 25, 26, 27, 28, 29, 30, 31, 32, 33, 34, 35, 36, 37, 38, 39, 8, 9, 11, 12, 13, 14, 40, 41, 42, 43, 44, 45, 46, 47, 48, 49, 50, 51, 52, 53, 54, 55, 56, 57] (by decide +kernel) (by decide +kernel)
set_option maxRecDepth 20000 in
theorem gX6_breaksNow_X6_resultOf : GoodIn wsX6_breaksNow (wsV RX6 101 RX6 yX6_resultOf wsX6_resultOf) := goodIn_app (goodIn_of _ (by decide +kernel)) ggX6_breaksNow_X6_resultOf
theorem dX6_breaksNow_0 : decode cX6_breaksNow 0 = .ok (.aload_n 0, 1) := by decide +kernel
theorem dX6_breaksNow_1 : decode cX6_breaksNow 1 = .ok (.getfield 51, 3) := by decide +kernel
theorem dX6_breaksNow_4 : decode cX6_breaksNow 4 = .ok (.iload_n 1, 1) := by decide +kernel
theorem dX6_breaksNow_5 : decode cX6_breaksNow 5 = .ok (.iaload, 1) := by decide +kernel
theorem dX6_breaksNow_6 : decode cX6_breaksNow 6 = .ok (.istore_n 3, 1) := by decide +kernel
theorem dX6_breaksNow_7 : decode cX6_breaksNow 7 = .ok (.aload_n 0, 1) := by decide +kernel
theorem dX6_breaksNow_8 : decode cX6_breaksNow 8 = .ok (.getfield 48, 3) := by decide +kernel
theorem dX6_breaksNow_11 : decode cX6_breaksNow 11 = .ok (.iload_n 1, 1) := by decide +kernel
theorem dX6_breaksNow_12 : decode cX6_breaksNow 12 = .ok (.iaload, 1) := by decide +kernel
theorem dX6_breaksNow_13 : decode cX6_breaksNow 13 = .ok (.iconst 1, 1) := by decide +kernel
theorem dX6_breaksNow_14 : decode cX6_breaksNow 14 = .ok (.if_icmp .ne 23, 3) := by decide +kernel
theorem dX6_breaksNow_17 : decode cX6_breaksNow 17 = .ok (.iload_n 2, 1) := by decide +kernel
theorem dX6_breaksNow_18 : decode cX6_breaksNow 18 = .ok (.iload_n 3, 1) := by decide +kernel
theorem dX6_breaksNow_19 : decode cX6_breaksNow 19 = .ok (.bipush 9, 2) := by decide +kernel
theorem dX6_breaksNow_21 : decode cX6_breaksNow 21 = .ok (.iload_n 2, 1) := by decide +kernel
theorem dX6_breaksNow_22 : decode cX6_breaksNow 22 = .ok (.iload_n 3, 1) := by decide +kernel
theorem dX6_breaksNow_23 : decode cX6_breaksNow 23 = .ok (.invokestatic 68, 3) := by decide +kernel
theorem dX6_breaksNow_26 : decode cX6_breaksNow 26 = .ok (.iconst 1, 1) := by decide +kernel
theorem dX6_breaksNow_27 : decode cX6_breaksNow 27 = .ok (.iadd, 1) := by decide +kernel
theorem dX6_breaksNow_28 : decode cX6_breaksNow 28 = .ok (.invokestatic 178, 3) := by decide +kernel
theorem dX6_breaksNow_31 : decode cX6_breaksNow 31 = .ok (.invokestatic 150, 3) := by decide +kernel
theorem dX6_breaksNow_34 : decode cX6_breaksNow 34 = .ok (.goto 32, 3) := by decide +kernel
theorem dX6_breaksNow_37 : decode cX6_breaksNow 37 = .ok (.iload_n 2, 1) := by decide +kernel
theorem dX6_breaksNow_38 : decode cX6_breaksNow 38 = .ok (.iload_n 3, 1) := by decide +kernel
theorem dX6_breaksNow_39 : decode cX6_breaksNow 39 = .ok (.iload_n 2, 1) := by decide +kernel
theorem dX6_breaksNow_40 : decode cX6_breaksNow 40 = .ok (.aload_n 0, 1) := by decide +kernel
theorem dX6_breaksNow_41 : decode cX6_breaksNow 41 = .ok (.getfield 54, 3) := by decide +kernel
theorem dX6_breaksNow_44 : decode cX6_breaksNow 44 = .ok (.iload_n 1, 1) := by decide +kernel
theorem dX6_breaksNow_45 : decode cX6_breaksNow 45 = .ok (.iaload, 1) := by decide +kernel
theorem dX6_breaksNow_46 : decode cX6_breaksNow 46 = .ok (.invokestatic 68, 3) := by decide +kernel
theorem dX6_breaksNow_49 : decode cX6_breaksNow 49 = .ok (.invokestatic 150, 3) := by decide +kernel
theorem dX6_breaksNow_52 : decode cX6_breaksNow 52 = .ok (.aload_n 0, 1) := by decide +kernel
theorem dX6_breaksNow_53 : decode cX6_breaksNow 53 = .ok (.getfield 54, 3) := by decide +kernel
theorem dX6_breaksNow_56 : decode cX6_breaksNow 56 = .ok (.iload_n 1, 1) := by decide +kernel
theorem dX6_breaksNow_57 : decode cX6_breaksNow 57 = .ok (.iaload, 1) := by decide +kernel
theorem dX6_breaksNow_58 : decode cX6_breaksNow 58 = .ok (.iload_n 2, 1) := by decide +kernel
theorem dX6_breaksNow_59 : decode cX6_breaksNow 59 = .ok (.iload_n 3, 1) := by decide +kernel
theorem dX6_breaksNow_60 : decode cX6_breaksNow 60 = .ok (.invokestatic 68, 3) := by decide +kernel
theorem dX6_breaksNow_63 : decode cX6_breaksNow 63 = .ok (.invokestatic 150, 3) := by decide +kernel
theorem dX6_breaksNow_66 : decode cX6_breaksNow 66 = .ok (.istore 4, 2) := by decide +kernel
theorem dX6_breaksNow_68 : decode cX6_breaksNow 68 = .ok (.aload_n 0, 1) := by decide +kernel
theorem dX6_breaksNow_69 : decode cX6_breaksNow 69 = .ok (.iload 4, 2) := by decide +kernel
theorem dX6_breaksNow_71 : decode cX6_breaksNow 71 = .ok (.invokevirtual 101, 3) := by decide +kernel
theorem dX6_breaksNow_74 : decode cX6_breaksNow 74 = .ok (.aload_n 0, 1) := by decide +kernel
theorem dX6_breaksNow_75 : decode cX6_breaksNow 75 = .ok (.iload_n 2, 1) := by decide +kernel
theorem dX6_breaksNow_76 : decode cX6_breaksNow 76 = .ok (.invokevirtual 101, 3) := by decide +kernel
theorem dX6_breaksNow_79 : decode cX6_breaksNow 79 = .ok (.if_icmp .eq 7, 3) := by decide +kernel
theorem dX6_breaksNow_82 : decode cX6_breaksNow 82 = .ok (.iconst 1, 1) := by decide +kernel
theorem dX6_breaksNow_83 : decode cX6_breaksNow 83 = .ok (.goto 4, 3) := by decide +kernel
theorem dX6_breaksNow_86 : decode cX6_breaksNow 86 = .ok (.iconst 0, 1) := by decide +kernel
theorem dX6_breaksNow_87 : decode cX6_breaksNow 87 = .ok (.ireturn, 1) := by decide +kernel
set_option maxRecDepth 20000 in
theorem ggX6_breaks_X6_isIn : GoodIn wsX6_breaks wsX6_isIn := goodIn_r _ [6] (by decide +kernel) (by decide +kernel)
set_option maxRecDepth 20000 in
theorem gX6_breaks_X6_isIn : GoodIn wsX6_breaks (va_wsS RX6 60 yX6_isIn wsX6_isIn) := goodIn_app (goodIn_of _ (by decide +kernel)) ggX6_breaks_X6_isIn
set_option maxRecDepth 20000 in
theorem ggX6_breaks_X6_isCase : GoodIn wsX6_breaks wsX6_isCase := goodIn_r _ [9, 3, 4, 5, 6] (by decide +kernel) (by decide +kernel)
set_option maxRecDepth 20000 in
theorem gX6_breaks_X6_isCase : GoodIn wsX6_breaks (va_wsS RX6 124 yX6_isCase wsX6_isCase) := goodIn_app (goodIn_of _ (by decide +kernel)) ggX6_breaks_X6_isCase
set_option maxRecDepth 20000 in
theorem ggX6_breaks_X6_breaksNow : GoodIn wsX6_breaks wsX6_breaksNow := goodIn_r _ [13, 14, 15, 16, 17, 18, 19, 20, 21, 22, 5, 23, 24, 25, 26, 27, 28, 29, 30, 31, 32, 33, 34, 35, 36, 37, 38, 39, 40, 41, 42, 43, 44, 45, 46, 47, 48, 49, 50, 51, 52, 53, 54, 55, 56, 57, 58, 59, 60, 61, 62, 63, 64, 65, 66, 67, 68, 69] (by decide +kernel) (by decide +kernel)
set_option maxRecDepth 20000 in
theorem gX6_breaks_X6_breaksNow : GoodIn wsX6_breaks (wsV RX6 181 RX6 yX6_breaksNow wsX6_breaksNow) := goodIn_app (goodIn_of _ (by decide +kernel)) ggX6_breaks_X6_breaksNow
theorem dX6_breaks_0 : decode cX6_breaks 0 = .ok (.aload_n 0, 1) := by decide +kernel
theorem dX6_breaks_1 : decode cX6_breaks 1 = .ok (.iload_n 1, 1) := by decide +kernel
theorem dX6_breaks_2 : decode cX6_breaks 2 = .ok (.iconst 0, 1) := by decide +kernel
theorem dX6_breaks_3 : decode cX6_breaks 3 = .ok (.aload_n 0, 1) := by decide +kernel
theorem dX6_breaks_4 : decode cX6_breaks 4 = .ok (.getfield 166, 3) := by decide +kernel
theorem dX6_breaks_7 : decode cX6_breaks 7 = .ok (.iconst 1, 1) := by decide +kernel
theorem dX6_breaks_8 : decode cX6_breaks 8 = .ok (.isub, 1) := by decide +kernel
theorem dX6_breaks_9 : decode cX6_breaks 9 = .ok (.invokestatic 60, 3) := by decide +kernel
theorem dX6_breaks_12 : decode cX6_breaks 12 = .ok (.ifCond .ne 7, 3) := by decide +kernel
theorem dX6_breaks_15 : decode cX6_breaks 15 = .ok (.iconst 1, 1) := by decide +kernel
theorem dX6_breaks_16 : decode cX6_breaks 16 = .ok (.goto 15, 3) := by decide +kernel
theorem dX6_breaks_19 : decode cX6_breaks 19 = .ok (.iload_n 2, 1) := by decide +kernel
theorem dX6_breaks_20 : decode cX6_breaks 20 = .ok (.invokestatic 124, 3) := by decide +kernel
theorem dX6_breaks_23 : decode cX6_breaks 23 = .ok (.ifCond .eq 7, 3) := by decide +kernel
theorem dX6_breaks_26 : decode cX6_breaks 26 = .ok (.iconst 0, 1) := by decide +kernel
theorem dX6_breaks_27 : decode cX6_breaks 27 = .ok (.goto 4, 3) := by decide +kernel
theorem dX6_breaks_30 : decode cX6_breaks 30 = .ok (.iconst 2, 1) := by decide +kernel
theorem dX6_breaks_31 : decode cX6_breaks 31 = .ok (.putfield 57, 3) := by decide +kernel
theorem dX6_breaks_34 : decode cX6_breaks 34 = .ok (.aload_n 0, 1) := by decide +kernel
theorem dX6_breaks_35 : decode cX6_breaks 35 = .ok (.getfield 57, 3) := by decide +kernel
theorem dX6_breaks_38 : decode cX6_breaks 38 = .ok (.ifCond .ne 16, 3) := by decide +kernel
theorem dX6_breaks_41 : decode cX6_breaks 41 = .ok (.aload_n 0, 1) := by decide +kernel
theorem dX6_breaks_42 : decode cX6_breaks 42 = .ok (.iload_n 1, 1) := by decide +kernel
theorem dX6_breaks_43 : decode cX6_breaks 43 = .ok (.iload_n 2, 1) := by decide +kernel
theorem dX6_breaks_44 : decode cX6_breaks 44 = .ok (.invokevirtual 181, 3) := by decide +kernel
theorem dX6_breaks_47 : decode cX6_breaks 47 = .ok (.ifCond .eq 7, 3) := by decide +kernel
theorem dX6_breaks_50 : decode cX6_breaks 50 = .ok (.iconst 1, 1) := by decide +kernel
theorem dX6_breaks_51 : decode cX6_breaks 51 = .ok (.goto 4, 3) := by decide +kernel
theorem dX6_breaks_54 : decode cX6_breaks 54 = .ok (.iconst 0, 1) := by decide +kernel
theorem dX6_breaks_55 : decode cX6_breaks 55 = .ok (.ireturn, 1) := by decide +kernel
set_option maxRecDepth 20000 in
theorem ggX6_brokenNow_X6_breaksNow : GoodIn wsX6_brokenNow wsX6_breaksNow := goodIn_r _ [7, 8, 9, 10, 11, 12, 13, 14, 15, 16, 6, 17, 18, 19, 20, 21, 22, 23, 24, 25, 26, 27, 28, 29, 30, 31, 32, 33, 34, 35, 36, 37, 38, 39, 40, 41, 42, 43, 44, 45, 46, 47, 48, 49, 50, 51, 52, 53, 54, 55, 56, 57, 58, 59, 60, 61, 62, 63] (by decide +kernel) (by decide +kernel)
set_option maxRecDepth 20000 in
theorem gX6_brokenNow_X6_breaksNow : GoodIn wsX6_brokenNow (wsV RX6 181 RX6 yX6_breaksNow wsX6_breaksNow) := goodIn_app (goodIn_of _ (by decide +kernel)) ggX6_brokenNow_X6_breaksNow
theorem dX6_brokenNow_0 : decode cX6_brokenNow 0 = .ok (.iconst 0, 1) := by decide +kernel
theorem dX6_brokenNow_1 : decode cX6_brokenNow 1 = .ok (.istore_n 2, 1) := by decide +kernel
theorem dX6_brokenNow_2 : decode cX6_brokenNow 2 = .ok (.iload_n 2, 1) := by decide +kernel
theorem dX6_brokenNow_3 : decode cX6_brokenNow 3 = .ok (.aload_n 0, 1) := by decide +kernel
theorem dX6_brokenNow_4 : decode cX6_brokenNow 4 = .ok (.getfield 92, 3) := by decide +kernel
theorem dX6_brokenNow_7 : decode cX6_brokenNow 7 = .ok (.if_icmp .ge 25, 3) := by decide +kernel
theorem dX6_brokenNow_10 : decode cX6_brokenNow 10 = .ok (.aload_n 0, 1) := by decide +kernel
theorem dX6_brokenNow_11 : decode cX6_brokenNow 11 = .ok (.iload_n 1, 1) := by decide +kernel
theorem dX6_brokenNow_12 : decode cX6_brokenNow 12 = .ok (.aload_n 0, 1) := by decide +kernel
theorem dX6_brokenNow_13 : decode cX6_brokenNow 13 = .ok (.getfield 33, 3) := by decide +kernel
theorem dX6_brokenNow_16 : decode cX6_brokenNow 16 = .ok (.iload_n 2, 1) := by decide +kernel
theorem dX6_brokenNow_17 : decode cX6_brokenNow 17 = .ok (.iaload, 1) := by decide +kernel
theorem dX6_brokenNow_18 : decode cX6_brokenNow 18 = .ok (.invokevirtual 181, 3) := by decide +kernel
theorem dX6_brokenNow_21 : decode cX6_brokenNow 21 = .ok (.ifCond .eq 5, 3) := by decide +kernel
theorem dX6_brokenNow_24 : decode cX6_brokenNow 24 = .ok (.iload_n 2, 1) := by decide +kernel
theorem dX6_brokenNow_25 : decode cX6_brokenNow 25 = .ok (.ireturn, 1) := by decide +kernel
theorem dX6_brokenNow_26 : decode cX6_brokenNow 26 = .ok (.iinc 2 1, 3) := by decide +kernel
theorem dX6_brokenNow_29 : decode cX6_brokenNow 29 = .ok (.goto (-27), 3) := by decide +kernel
theorem dX6_brokenNow_32 : decode cX6_brokenNow 32 = .ok (.iconst (-1), 1) := by decide +kernel
theorem dX6_brokenNow_33 : decode cX6_brokenNow 33 = .ok (.ireturn, 1) := by decide +kernel
set_option maxRecDepth 20000 in
theorem ggX6_brokenBy_X6_isIn : GoodIn wsX6_brokenBy wsX6_isIn := goodIn_r _ [6] (by decide +kernel) (by decide +kernel)
set_option maxRecDepth 20000 in
theorem gX6_brokenBy_X6_isIn : GoodIn wsX6_brokenBy (va_wsS RX6 60 yX6_isIn wsX6_isIn) := goodIn_app (goodIn_of _ (by decide +kernel)) ggX6_brokenBy_X6_isIn
set_option maxRecDepth 20000 in
theorem ggX6_brokenBy_X6_brokenNow : GoodIn wsX6_brokenBy wsX6_brokenNow := goodIn_r _ [10, 11, 12, 13, 14, 15, 5, 16, 17, 18, 19, 20, 21, 22, 23, 24, 25, 26, 27, 28, 29, 30, 31, 32, 33, 34, 35, 36, 37, 38, 39, 40, 41, 42, 43, 44, 45, 46, 47, 48, 49, 50, 51, 52, 53, 54, 59, 60, 61, 62, 63, 64, 65, 66, 67, 68, 69, 70, 71, 72, 73, 74, 75, 76] (by decide +kernel) (by decide +kernel)
set_option maxRecDepth 20000 in
theorem gX6_brokenBy_X6_brokenNow : GoodIn wsX6_brokenBy (wsV RX6 184 RX6 yX6_brokenNow wsX6_brokenNow) := goodIn_app (goodIn_of _ (by decide +kernel)) ggX6_brokenBy_X6_brokenNow
set_option maxRecDepth 20000 in
theorem ggX6_brokenBy_X6_no : GoodIn wsX6_brokenBy wsX6_no := goodIn_r _ [58, 1, 59, 60, 61, 62, 63, 64, 65, 66, 67, 68, 69, 70, 71, 72, 73, 74, 75, 76] (by decide +kernel) (by decide +kernel)
set_option maxRecDepth 20000 in
theorem gX6_brokenBy_X6_no : GoodIn wsX6_brokenBy (wsV RX6 118 RX6 yX6_no wsX6_no) := goodIn_app (goodIn_of _ (by decide +kernel)) ggX6_brokenBy_X6_no
theorem dX6_brokenBy_0 : decode cX6_brokenBy 0 = .ok (.aload_n 0, 1) := by decide +kernel
theorem dX6_brokenBy_1 : decode cX6_brokenBy 1 = .ok (.iconst 0, 1) := by decide +kernel
theorem dX6_brokenBy_2 : decode cX6_brokenBy 2 = .ok (.putfield 57, 3) := by decide +kernel
theorem dX6_brokenBy_5 : decode cX6_brokenBy 5 = .ok (.iload_n 1, 1) := by decide +kernel
theorem dX6_brokenBy_6 : decode cX6_brokenBy 6 = .ok (.iconst 0, 1) := by decide +kernel
theorem dX6_brokenBy_7 : decode cX6_brokenBy 7 = .ok (.aload_n 0, 1) := by decide +kernel
theorem dX6_brokenBy_8 : decode cX6_brokenBy 8 = .ok (.getfield 166, 3) := by decide +kernel
theorem dX6_brokenBy_11 : decode cX6_brokenBy 11 = .ok (.iconst 1, 1) := by decide +kernel
theorem dX6_brokenBy_12 : decode cX6_brokenBy 12 = .ok (.isub, 1) := by decide +kernel
theorem dX6_brokenBy_13 : decode cX6_brokenBy 13 = .ok (.invokestatic 60, 3) := by decide +kernel
theorem dX6_brokenBy_16 : decode cX6_brokenBy 16 = .ok (.ifCond .eq 11, 3) := by decide +kernel
theorem dX6_brokenBy_19 : decode cX6_brokenBy 19 = .ok (.aload_n 0, 1) := by decide +kernel
theorem dX6_brokenBy_20 : decode cX6_brokenBy 20 = .ok (.iload_n 1, 1) := by decide +kernel
theorem dX6_brokenBy_21 : decode cX6_brokenBy 21 = .ok (.invokevirtual 184, 3) := by decide +kernel
theorem dX6_brokenBy_24 : decode cX6_brokenBy 24 = .ok (.goto 8, 3) := by decide +kernel
theorem dX6_brokenBy_27 : decode cX6_brokenBy 27 = .ok (.aload_n 0, 1) := by decide +kernel
theorem dX6_brokenBy_28 : decode cX6_brokenBy 28 = .ok (.iconst 1, 1) := by decide +kernel
theorem dX6_brokenBy_29 : decode cX6_brokenBy 29 = .ok (.invokevirtual 118, 3) := by decide +kernel
theorem dX6_brokenBy_32 : decode cX6_brokenBy 32 = .ok (.ireturn, 1) := by decide +kernel
set_option maxRecDepth 20000 in
theorem ggX6_wouldDropNow_X6_edgesOf : GoodIn wsX6_wouldDropNow wsX6_edgesOf := goodIn_r _ [14, 15, 16, 17, 13, 18, 19, 20, 21, 3, 4, 5, 6, 22, 23, 24, 25, 26, 27, 28, 29, 30, 31, 32, 33, 34, 60, 61, 62, 63, 64, 65, 66, 67, 68, 69, 70, 71, 72, 73, 74, 75, 76, 77] (by decide +kernel) (by decide +kernel)
set_option maxRecDepth 20000 in
theorem gX6_wouldDropNow_X6_edgesOf : GoodIn wsX6_wouldDropNow (wsV RX6 98 RX6 yX6_edgesOf wsX6_edgesOf) := goodIn_app (goodIn_of _ (by decide +kernel)) ggX6_wouldDropNow_X6_edgesOf
set_option maxRecDepth 20000 in
theorem ggX6_wouldDropNow_X6_resultOf : GoodIn wsX6_wouldDropNow wsX6_resultOf := goodIn_r _ [38, 15, 16, 17, 13, 18, 19, 20, 21, 3, 4, 5, 6, 22, 23, 24, 25, 26, 27, 28, 29, 30, 31, 32, 33, 34, 60, 61, 62, 63, 64, 65, 66, 67, 68, 69, 70, 71, 72, 73, 74, 75, 76, 77] (by decide +kernel) (by decide +kernel)
set_option maxRecDepth 20000 in
theorem gX6_wouldDropNow_X6_resultOf : GoodIn wsX6_wouldDropNow (wsV RX6 101 RX6 yX6_resultOf wsX6_resultOf) := goodIn_app (goodIn_of _ (by decide +kernel)) ggX6_wouldDropNow_X6_resultOf
set_option maxRecDepth 20000 in
theorem ggX6_wouldDropNow_X6_placeOf : GoodIn wsX6_wouldDropNow wsX6_placeOf := goodIn_r _ [42, 7, 43, 60, 61, 62, 63, 64, 65, 66, 67, 68, 69, 70, 71, 72, 73, 74, 75, 76, 77] (by decide +kernel) (by decide +kernel)
set_option maxRecDepth 20000 in
theorem gX6_wouldDropNow_X6_placeOf : GoodIn wsX6_wouldDropNow (wsV RX6 133 RX6 yX6_placeOf wsX6_placeOf) := goodIn_app (goodIn_of _ (by decide +kernel)) ggX6_wouldDropNow_X6_placeOf
set_option maxRecDepth 20000 in
theorem ggX6_wouldDropNow_X6_isNeeded : GoodIn wsX6_wouldDropNow wsX6_isNeeded := goodIn_r _ [47, 48, 49, 50, 13, 51, 7, 2, 8, 52, 53, 54, 55, 9, 60, 61, 62, 63, 64, 65, 66, 67, 68, 69, 70, 71, 72, 73, 74, 75, 76, 77] (by decide +kernel) (by decide +kernel)
set_option maxRecDepth 20000 in
theorem gX6_wouldDropNow_X6_isNeeded : GoodIn wsX6_wouldDropNow (wsV RX6 95 RX6 yX6_isNeeded wsX6_isNeeded) := goodIn_app (goodIn_of _ (by decide +kernel)) ggX6_wouldDropNow_X6_isNeeded
set_option maxRecDepth 20000 in
theorem ggX6_wouldDropNow_X6_kept : GoodIn wsX6_wouldDropNow wsX6_kept := goodIn_r _ [59, 7, 2, 60, 61, 62, 63, 64, 65, 66, 67, 68, 69, 70, 71, 72, 73, 74, 75, 76, 77] (by decide +kernel) (by decide +kernel)
set_option maxRecDepth 20000 in
theorem gX6_wouldDropNow_X6_kept : GoodIn wsX6_wouldDropNow (wsV RX6 107 RX6 yX6_kept wsX6_kept) := goodIn_app (goodIn_of _ (by decide +kernel)) ggX6_wouldDropNow_X6_kept
set_option maxRecDepth 20000 in
theorem ggX6_wouldDropNow_X6_keptEdges : GoodIn wsX6_wouldDropNow wsX6_keptEdges := goodIn_r _ [51, 7, 2, 8, 60, 61, 62, 63, 64, 65, 66, 67, 68, 69, 70, 71, 72, 73, 74, 75, 76, 77] (by decide +kernel) (by decide +kernel)
set_option maxRecDepth 20000 in
theorem gX6_wouldDropNow_X6_keptEdges : GoodIn wsX6_wouldDropNow (wsV RX6 85 RX6 yX6_keptEdges wsX6_keptEdges) := goodIn_app (goodIn_of _ (by decide +kernel)) ggX6_wouldDropNow_X6_keptEdges
set_option maxRecDepth 20000 in
theorem ggX6_wouldDropNow_X6_hasResult : GoodIn wsX6_wouldDropNow wsX6_hasResult := goodIn_r _ [55, 7, 2, 9, 60, 61, 62, 63, 64, 65, 66, 67, 68, 69, 70, 71, 72, 73, 74, 75, 76, 77] (by decide +kernel) (by decide +kernel)
set_option maxRecDepth 20000 in
theorem gX6_wouldDropNow_X6_hasResult : GoodIn wsX6_wouldDropNow (wsV RX6 88 RX6 yX6_hasResult wsX6_hasResult) := goodIn_app (goodIn_of _ (by decide +kernel)) ggX6_wouldDropNow_X6_hasResult
theorem dX6_wouldDropNow_0 : decode cX6_wouldDropNow 0 = .ok (.aload_n 0, 1) := by decide +kernel
theorem dX6_wouldDropNow_1 : decode cX6_wouldDropNow 1 = .ok (.iload_n 1, 1) := by decide +kernel
theorem dX6_wouldDropNow_2 : decode cX6_wouldDropNow 2 = .ok (.invokevirtual 98, 3) := by decide +kernel
theorem dX6_wouldDropNow_5 : decode cX6_wouldDropNow 5 = .ok (.istore_n 2, 1) := by decide +kernel
theorem dX6_wouldDropNow_6 : decode cX6_wouldDropNow 6 = .ok (.aload_n 0, 1) := by decide +kernel
theorem dX6_wouldDropNow_7 : decode cX6_wouldDropNow 7 = .ok (.iload_n 1, 1) := by decide +kernel
theorem dX6_wouldDropNow_8 : decode cX6_wouldDropNow 8 = .ok (.invokevirtual 101, 3) := by decide +kernel
theorem dX6_wouldDropNow_11 : decode cX6_wouldDropNow 11 = .ok (.istore_n 3, 1) := by decide +kernel
theorem dX6_wouldDropNow_12 : decode cX6_wouldDropNow 12 = .ok (.aload_n 0, 1) := by decide +kernel
theorem dX6_wouldDropNow_13 : decode cX6_wouldDropNow 13 = .ok (.iload_n 1, 1) := by decide +kernel
theorem dX6_wouldDropNow_14 : decode cX6_wouldDropNow 14 = .ok (.invokevirtual 133, 3) := by decide +kernel
theorem dX6_wouldDropNow_17 : decode cX6_wouldDropNow 17 = .ok (.iconst (-1), 1) := by decide +kernel
theorem dX6_wouldDropNow_18 : decode cX6_wouldDropNow 18 = .ok (.if_icmp .ne 13, 3) := by decide +kernel
theorem dX6_wouldDropNow_21 : decode cX6_wouldDropNow 21 = .ok (.aload_n 0, 1) := by decide +kernel
theorem dX6_wouldDropNow_22 : decode cX6_wouldDropNow 22 = .ok (.iload_n 2, 1) := by decide +kernel
theorem dX6_wouldDropNow_23 : decode cX6_wouldDropNow 23 = .ok (.iload_n 3, 1) := by decide +kernel
theorem dX6_wouldDropNow_24 : decode cX6_wouldDropNow 24 = .ok (.iconst (-1), 1) := by decide +kernel
theorem dX6_wouldDropNow_25 : decode cX6_wouldDropNow 25 = .ok (.invokevirtual 95, 3) := by decide +kernel
theorem dX6_wouldDropNow_28 : decode cX6_wouldDropNow 28 = .ok (.ifCond .ne 5, 3) := by decide +kernel
theorem dX6_wouldDropNow_31 : decode cX6_wouldDropNow 31 = .ok (.iconst (-1), 1) := by decide +kernel
theorem dX6_wouldDropNow_32 : decode cX6_wouldDropNow 32 = .ok (.ireturn, 1) := by decide +kernel
theorem dX6_wouldDropNow_33 : decode cX6_wouldDropNow 33 = .ok (.bipush 40, 2) := by decide +kernel
theorem dX6_wouldDropNow_35 : decode cX6_wouldDropNow 35 = .ok (.newarray .boolean, 2) := by decide +kernel
theorem dX6_wouldDropNow_37 : decode cX6_wouldDropNow 37 = .ok (.astore 4, 2) := by decide +kernel
theorem dX6_wouldDropNow_39 : decode cX6_wouldDropNow 39 = .ok (.aload_n 0, 1) := by decide +kernel
theorem dX6_wouldDropNow_40 : decode cX6_wouldDropNow 40 = .ok (.getfield 45, 3) := by decide +kernel
theorem dX6_wouldDropNow_43 : decode cX6_wouldDropNow 43 = .ok (.iconst 0, 1) := by decide +kernel
theorem dX6_wouldDropNow_44 : decode cX6_wouldDropNow 44 = .ok (.aload 4, 2) := by decide +kernel
theorem dX6_wouldDropNow_46 : decode cX6_wouldDropNow 46 = .ok (.iconst 0, 1) := by decide +kernel
theorem dX6_wouldDropNow_47 : decode cX6_wouldDropNow 47 = .ok (.bipush 40, 2) := by decide +kernel
theorem dX6_wouldDropNow_49 : decode cX6_wouldDropNow 49 = .ok (.invokestatic 75, 3) := by decide +kernel
theorem dX6_wouldDropNow_52 : decode cX6_wouldDropNow 52 = .ok (.aload_n 0, 1) := by decide +kernel
theorem dX6_wouldDropNow_53 : decode cX6_wouldDropNow 53 = .ok (.invokevirtual 107, 3) := by decide +kernel
theorem dX6_wouldDropNow_56 : decode cX6_wouldDropNow 56 = .ok (.istore 5, 2) := by decide +kernel
theorem dX6_wouldDropNow_58 : decode cX6_wouldDropNow 58 = .ok (.iconst 0, 1) := by decide +kernel
theorem dX6_wouldDropNow_59 : decode cX6_wouldDropNow 59 = .ok (.istore 6, 2) := by decide +kernel
theorem dX6_wouldDropNow_61 : decode cX6_wouldDropNow 61 = .ok (.iload 6, 2) := by decide +kernel
theorem dX6_wouldDropNow_63 : decode cX6_wouldDropNow 63 = .ok (.aload_n 0, 1) := by decide +kernel
theorem dX6_wouldDropNow_64 : decode cX6_wouldDropNow 64 = .ok (.getfield 92, 3) := by decide +kernel
theorem dX6_wouldDropNow_67 : decode cX6_wouldDropNow 67 = .ok (.if_icmp .ge 84, 3) := by decide +kernel
theorem dX6_wouldDropNow_70 : decode cX6_wouldDropNow 70 = .ok (.aload_n 0, 1) := by decide +kernel
theorem dX6_wouldDropNow_71 : decode cX6_wouldDropNow 71 = .ok (.getfield 45, 3) := by decide +kernel
theorem dX6_wouldDropNow_74 : decode cX6_wouldDropNow 74 = .ok (.iload 6, 2) := by decide +kernel
theorem dX6_wouldDropNow_76 : decode cX6_wouldDropNow 76 = .ok (.dup2, 1) := by decide +kernel
theorem dX6_wouldDropNow_77 : decode cX6_wouldDropNow 77 = .ok (.baload, 1) := by decide +kernel
theorem dX6_wouldDropNow_78 : decode cX6_wouldDropNow 78 = .ok (.aload_n 0, 1) := by decide +kernel
theorem dX6_wouldDropNow_79 : decode cX6_wouldDropNow 79 = .ok (.getfield 39, 3) := by decide +kernel
theorem dX6_wouldDropNow_82 : decode cX6_wouldDropNow 82 = .ok (.iload 6, 2) := by decide +kernel
theorem dX6_wouldDropNow_84 : decode cX6_wouldDropNow 84 = .ok (.iaload, 1) := by decide +kernel
theorem dX6_wouldDropNow_85 : decode cX6_wouldDropNow 85 = .ok (.aload_n 0, 1) := by decide +kernel
theorem dX6_wouldDropNow_86 : decode cX6_wouldDropNow 86 = .ok (.iload 6, 2) := by decide +kernel
theorem dX6_wouldDropNow_88 : decode cX6_wouldDropNow 88 = .ok (.invokevirtual 85, 3) := by decide +kernel
theorem dX6_wouldDropNow_91 : decode cX6_wouldDropNow 91 = .ok (.iload_n 2, 1) := by decide +kernel
theorem dX6_wouldDropNow_92 : decode cX6_wouldDropNow 92 = .ok (.ior, 1) := by decide +kernel
theorem dX6_wouldDropNow_93 : decode cX6_wouldDropNow 93 = .ok (.iconst (-1), 1) := by decide +kernel
theorem dX6_wouldDropNow_94 : decode cX6_wouldDropNow 94 = .ok (.ixor, 1) := by decide +kernel
theorem dX6_wouldDropNow_95 : decode cX6_wouldDropNow 95 = .ok (.iand, 1) := by decide +kernel
theorem dX6_wouldDropNow_96 : decode cX6_wouldDropNow 96 = .ok (.ifCond .ne 42, 3) := by decide +kernel
theorem dX6_wouldDropNow_99 : decode cX6_wouldDropNow 99 = .ok (.aload_n 0, 1) := by decide +kernel
theorem dX6_wouldDropNow_100 : decode cX6_wouldDropNow 100 = .ok (.getfield 42, 3) := by decide +kernel
theorem dX6_wouldDropNow_103 : decode cX6_wouldDropNow 103 = .ok (.iload 6, 2) := by decide +kernel
theorem dX6_wouldDropNow_105 : decode cX6_wouldDropNow 105 = .ok (.iaload, 1) := by decide +kernel
theorem dX6_wouldDropNow_106 : decode cX6_wouldDropNow 106 = .ok (.bipush 100, 2) := by decide +kernel
theorem dX6_wouldDropNow_108 : decode cX6_wouldDropNow 108 = .ok (.if_icmp .lt 34, 3) := by decide +kernel
theorem dX6_wouldDropNow_111 : decode cX6_wouldDropNow 111 = .ok (.aload_n 0, 1) := by decide +kernel
theorem dX6_wouldDropNow_112 : decode cX6_wouldDropNow 112 = .ok (.getfield 42, 3) := by decide +kernel
theorem dX6_wouldDropNow_115 : decode cX6_wouldDropNow 115 = .ok (.iload 6, 2) := by decide +kernel
theorem dX6_wouldDropNow_117 : decode cX6_wouldDropNow 117 = .ok (.iaload, 1) := by decide +kernel
theorem dX6_wouldDropNow_118 : decode cX6_wouldDropNow 118 = .ok (.iload_n 3, 1) := by decide +kernel
theorem dX6_wouldDropNow_119 : decode cX6_wouldDropNow 119 = .ok (.if_icmp .eq 23, 3) := by decide +kernel
theorem dX6_wouldDropNow_122 : decode cX6_wouldDropNow 122 = .ok (.aload_n 0, 1) := by decide +kernel
theorem dX6_wouldDropNow_123 : decode cX6_wouldDropNow 123 = .ok (.aload_n 0, 1) := by decide +kernel
theorem dX6_wouldDropNow_124 : decode cX6_wouldDropNow 124 = .ok (.getfield 42, 3) := by decide +kernel
theorem dX6_wouldDropNow_127 : decode cX6_wouldDropNow 127 = .ok (.iload 6, 2) := by decide +kernel
theorem dX6_wouldDropNow_129 : decode cX6_wouldDropNow 129 = .ok (.iaload, 1) := by decide +kernel
theorem dX6_wouldDropNow_130 : decode cX6_wouldDropNow 130 = .ok (.iload 6, 2) := by decide +kernel
theorem dX6_wouldDropNow_132 : decode cX6_wouldDropNow 132 = .ok (.invokevirtual 88, 3) := by decide +kernel
theorem dX6_wouldDropNow_135 : decode cX6_wouldDropNow 135 = .ok (.ifCond .ne 7, 3) := by decide +kernel
theorem dX6_wouldDropNow_138 : decode cX6_wouldDropNow 138 = .ok (.iconst 1, 1) := by decide +kernel
theorem dX6_wouldDropNow_139 : decode cX6_wouldDropNow 139 = .ok (.goto 4, 3) := by decide +kernel
theorem dX6_wouldDropNow_142 : decode cX6_wouldDropNow 142 = .ok (.iconst 0, 1) := by decide +kernel
theorem dX6_wouldDropNow_143 : decode cX6_wouldDropNow 143 = .ok (.iand, 1) := by decide +kernel
theorem dX6_wouldDropNow_144 : decode cX6_wouldDropNow 144 = .ok (.bastore, 1) := by decide +kernel
theorem dX6_wouldDropNow_145 : decode cX6_wouldDropNow 145 = .ok (.iinc 6 1, 3) := by decide +kernel
theorem dX6_wouldDropNow_148 : decode cX6_wouldDropNow 148 = .ok (.goto (-87), 3) := by decide +kernel
theorem dX6_wouldDropNow_151 : decode cX6_wouldDropNow 151 = .ok (.iload 5, 2) := by decide +kernel
theorem dX6_wouldDropNow_153 : decode cX6_wouldDropNow 153 = .ok (.aload_n 0, 1) := by decide +kernel
theorem dX6_wouldDropNow_154 : decode cX6_wouldDropNow 154 = .ok (.invokevirtual 107, 3) := by decide +kernel
theorem dX6_wouldDropNow_157 : decode cX6_wouldDropNow 157 = .ok (.isub, 1) := by decide +kernel
theorem dX6_wouldDropNow_158 : decode cX6_wouldDropNow 158 = .ok (.istore 6, 2) := by decide +kernel
theorem dX6_wouldDropNow_160 : decode cX6_wouldDropNow 160 = .ok (.aload 4, 2) := by decide +kernel
theorem dX6_wouldDropNow_162 : decode cX6_wouldDropNow 162 = .ok (.iconst 0, 1) := by decide +kernel
theorem dX6_wouldDropNow_163 : decode cX6_wouldDropNow 163 = .ok (.aload_n 0, 1) := by decide +kernel
theorem dX6_wouldDropNow_164 : decode cX6_wouldDropNow 164 = .ok (.getfield 45, 3) := by decide +kernel
theorem dX6_wouldDropNow_167 : decode cX6_wouldDropNow 167 = .ok (.iconst 0, 1) := by decide +kernel
theorem dX6_wouldDropNow_168 : decode cX6_wouldDropNow 168 = .ok (.bipush 40, 2) := by decide +kernel
theorem dX6_wouldDropNow_170 : decode cX6_wouldDropNow 170 = .ok (.invokestatic 75, 3) := by decide +kernel
theorem dX6_wouldDropNow_173 : decode cX6_wouldDropNow 173 = .ok (.iload 6, 2) := by decide +kernel
theorem dX6_wouldDropNow_175 : decode cX6_wouldDropNow 175 = .ok (.ireturn, 1) := by decide +kernel
set_option maxRecDepth 20000 in
theorem ggX6_wouldDrop_X6_isCase : GoodIn wsX6_wouldDrop wsX6_isCase := goodIn_r _ [5, 6, 7, 4, 8] (by decide +kernel) (by decide +kernel)
set_option maxRecDepth 20000 in
theorem gX6_wouldDrop_X6_isCase : GoodIn wsX6_wouldDrop (va_wsS RX6 124 yX6_isCase wsX6_isCase) := goodIn_app (goodIn_of _ (by decide +kernel)) ggX6_wouldDrop_X6_isCase
set_option maxRecDepth 20000 in
theorem ggX6_wouldDrop_X6_wouldDropNow : GoodIn wsX6_wouldDrop wsX6_wouldDropNow := goodIn_r _ [12, 13, 14, 15, 16, 17, 18, 19, 20, 21, 22, 23, 24, 4, 25, 26, 27, 28, 29, 30, 31, 32, 33, 34, 35, 36, 37, 38, 39, 40, 41, 42, 43, 44, 45, 46, 47, 48, 49, 50, 51, 52, 53, 54, 55, 56, 57, 58, 59, 60, 61, 62, 63, 64, 65, 66, 67, 68, 69, 70, 75, 76, 77, 78, 79, 80, 81, 82, 83, 84, 85, 86, 87, 88, 89, 90, 91, 92] (by decide +kernel) (by decide +kernel)
set_option maxRecDepth 20000 in
theorem gX6_wouldDrop_X6_wouldDropNow : GoodIn wsX6_wouldDrop (wsV RX6 187 RX6 yX6_wouldDropNow wsX6_wouldDropNow) := goodIn_app (goodIn_of _ (by decide +kernel)) ggX6_wouldDrop_X6_wouldDropNow
set_option maxRecDepth 20000 in
theorem ggX6_wouldDrop_X6_no : GoodIn wsX6_wouldDrop wsX6_no := goodIn_r _ [74, 1, 75, 76, 77, 78, 79, 80, 81, 82, 83, 84, 85, 86, 87, 88, 89, 90, 91, 92] (by decide +kernel) (by decide +kernel)
set_option maxRecDepth 20000 in
theorem gX6_wouldDrop_X6_no : GoodIn wsX6_wouldDrop (wsV RX6 118 RX6 yX6_no wsX6_no) := goodIn_app (goodIn_of _ (by decide +kernel)) ggX6_wouldDrop_X6_no
theorem dX6_wouldDrop_0 : decode cX6_wouldDrop 0 = .ok (.aload_n 0, 1) := by decide +kernel
theorem dX6_wouldDrop_1 : decode cX6_wouldDrop 1 = .ok (.iconst 0, 1) := by decide +kernel
theorem dX6_wouldDrop_2 : decode cX6_wouldDrop 2 = .ok (.putfield 57, 3) := by decide +kernel
theorem dX6_wouldDrop_5 : decode cX6_wouldDrop 5 = .ok (.iload_n 1, 1) := by decide +kernel
theorem dX6_wouldDrop_6 : decode cX6_wouldDrop 6 = .ok (.invokestatic 124, 3) := by decide +kernel
theorem dX6_wouldDrop_9 : decode cX6_wouldDrop 9 = .ok (.ifCond .eq 11, 3) := by decide +kernel
theorem dX6_wouldDrop_12 : decode cX6_wouldDrop 12 = .ok (.aload_n 0, 1) := by decide +kernel
theorem dX6_wouldDrop_13 : decode cX6_wouldDrop 13 = .ok (.iload_n 1, 1) := by decide +kernel
theorem dX6_wouldDrop_14 : decode cX6_wouldDrop 14 = .ok (.invokevirtual 187, 3) := by decide +kernel
theorem dX6_wouldDrop_17 : decode cX6_wouldDrop 17 = .ok (.goto 8, 3) := by decide +kernel
theorem dX6_wouldDrop_20 : decode cX6_wouldDrop 20 = .ok (.aload_n 0, 1) := by decide +kernel
theorem dX6_wouldDrop_21 : decode cX6_wouldDrop 21 = .ok (.iconst 1, 1) := by decide +kernel
theorem dX6_wouldDrop_22 : decode cX6_wouldDrop 22 = .ok (.invokevirtual 118, 3) := by decide +kernel
theorem dX6_wouldDrop_25 : decode cX6_wouldDrop 25 = .ok (.ireturn, 1) := by decide +kernel
set_option maxRecDepth 20000 in
theorem ggX6_otherwise_X6_isNode : GoodIn wsX6_otherwise wsX6_isNode := goodIn_r _ [10, 11, 12, 9, 13] (by decide +kernel) (by decide +kernel)
set_option maxRecDepth 20000 in
theorem gX6_otherwise_X6_isNode : GoodIn wsX6_otherwise (va_wsS RX6 111 yX6_isNode wsX6_isNode) := goodIn_app (goodIn_of _ (by decide +kernel)) ggX6_otherwise_X6_isNode
set_option maxRecDepth 20000 in
theorem ggX6_otherwise_X6_no : GoodIn wsX6_otherwise wsX6_no := goodIn_r _ [17, 1, 44, 45, 46, 47, 48, 49, 50, 51, 52, 53, 54, 55, 56, 57, 58, 59, 60, 61] (by decide +kernel) (by decide +kernel)
set_option maxRecDepth 20000 in
theorem gX6_otherwise_X6_no : GoodIn wsX6_otherwise (wsV RX6 118 RX6 yX6_no wsX6_no) := goodIn_app (goodIn_of _ (by decide +kernel)) ggX6_otherwise_X6_no
set_option maxRecDepth 20000 in
theorem ggX6_otherwise_X6_isIn : GoodIn wsX6_otherwise wsX6_isIn := goodIn_r _ [13] (by decide +kernel) (by decide +kernel)
set_option maxRecDepth 20000 in
theorem gX6_otherwise_X6_isIn : GoodIn wsX6_otherwise (va_wsS RX6 60 yX6_isIn wsX6_isIn) := goodIn_app (goodIn_of _ (by decide +kernel)) ggX6_otherwise_X6_isIn
set_option maxRecDepth 20000 in
theorem ggX6_otherwise_X6_resultOf : GoodIn wsX6_otherwise wsX6_resultOf := goodIn_r _ [21, 22, 23, 24, 9, 25, 26, 27, 28, 29, 30, 31, 32, 33, 34, 35, 36, 37, 2, 3, 38, 39, 40, 41, 42, 43, 44, 45, 46, 47, 48, 49, 50, 51, 52, 53, 54, 55, 56, 57, 58, 59, 60, 61] (by decide +kernel) (by decide +kernel)
set_option maxRecDepth 20000 in
theorem gX6_otherwise_X6_resultOf : GoodIn wsX6_otherwise (wsV RX6 101 RX6 yX6_resultOf wsX6_resultOf) := goodIn_app (goodIn_of _ (by decide +kernel)) ggX6_otherwise_X6_resultOf
theorem dX6_otherwise_0 : decode cX6_otherwise 0 = .ok (.aload_n 0, 1) := by decide +kernel
theorem dX6_otherwise_1 : decode cX6_otherwise 1 = .ok (.iconst 0, 1) := by decide +kernel
theorem dX6_otherwise_2 : decode cX6_otherwise 2 = .ok (.putfield 57, 3) := by decide +kernel
theorem dX6_otherwise_5 : decode cX6_otherwise 5 = .ok (.iload_n 1, 1) := by decide +kernel
theorem dX6_otherwise_6 : decode cX6_otherwise 6 = .ok (.invokestatic 111, 3) := by decide +kernel
theorem dX6_otherwise_9 : decode cX6_otherwise 9 = .ok (.ifCond .ne 9, 3) := by decide +kernel
theorem dX6_otherwise_12 : decode cX6_otherwise 12 = .ok (.aload_n 0, 1) := by decide +kernel
theorem dX6_otherwise_13 : decode cX6_otherwise 13 = .ok (.iconst 1, 1) := by decide +kernel
theorem dX6_otherwise_14 : decode cX6_otherwise 14 = .ok (.invokevirtual 118, 3) := by decide +kernel
theorem dX6_otherwise_17 : decode cX6_otherwise 17 = .ok (.ireturn, 1) := by decide +kernel
theorem dX6_otherwise_18 : decode cX6_otherwise 18 = .ok (.iload_n 2, 1) := by decide +kernel
theorem dX6_otherwise_19 : decode cX6_otherwise 19 = .ok (.iconst 0, 1) := by decide +kernel
theorem dX6_otherwise_20 : decode cX6_otherwise 20 = .ok (.iconst 2, 1) := by decide +kernel
theorem dX6_otherwise_21 : decode cX6_otherwise 21 = .ok (.invokestatic 60, 3) := by decide +kernel
theorem dX6_otherwise_24 : decode cX6_otherwise 24 = .ok (.ifCond .eq 13, 3) := by decide +kernel
theorem dX6_otherwise_27 : decode cX6_otherwise 27 = .ok (.iload_n 3, 1) := by decide +kernel
theorem dX6_otherwise_28 : decode cX6_otherwise 28 = .ok (.iconst 0, 1) := by decide +kernel
theorem dX6_otherwise_29 : decode cX6_otherwise 29 = .ok (.bipush 9, 2) := by decide +kernel
theorem dX6_otherwise_31 : decode cX6_otherwise 31 = .ok (.invokestatic 60, 3) := by decide +kernel
theorem dX6_otherwise_34 : decode cX6_otherwise 34 = .ok (.ifCond .ne 9, 3) := by decide +kernel
theorem dX6_otherwise_37 : decode cX6_otherwise 37 = .ok (.aload_n 0, 1) := by decide +kernel
theorem dX6_otherwise_38 : decode cX6_otherwise 38 = .ok (.iconst 2, 1) := by decide +kernel
theorem dX6_otherwise_39 : decode cX6_otherwise 39 = .ok (.invokevirtual 118, 3) := by decide +kernel
theorem dX6_otherwise_42 : decode cX6_otherwise 42 = .ok (.ireturn, 1) := by decide +kernel
theorem dX6_otherwise_43 : decode cX6_otherwise 43 = .ok (.aload_n 0, 1) := by decide +kernel
theorem dX6_otherwise_44 : decode cX6_otherwise 44 = .ok (.getfield 13, 3) := by decide +kernel
theorem dX6_otherwise_47 : decode cX6_otherwise 47 = .ok (.iload_n 1, 1) := by decide +kernel
theorem dX6_otherwise_48 : decode cX6_otherwise 48 = .ok (.iaload, 1) := by decide +kernel
theorem dX6_otherwise_49 : decode cX6_otherwise 49 = .ok (.istore 4, 2) := by decide +kernel
theorem dX6_otherwise_51 : decode cX6_otherwise 51 = .ok (.aload_n 0, 1) := by decide +kernel
theorem dX6_otherwise_52 : decode cX6_otherwise 52 = .ok (.getfield 16, 3) := by decide +kernel
theorem dX6_otherwise_55 : decode cX6_otherwise 55 = .ok (.iload_n 1, 1) := by decide +kernel
theorem dX6_otherwise_56 : decode cX6_otherwise 56 = .ok (.iaload, 1) := by decide +kernel
theorem dX6_otherwise_57 : decode cX6_otherwise 57 = .ok (.istore 5, 2) := by decide +kernel
theorem dX6_otherwise_59 : decode cX6_otherwise 59 = .ok (.aload_n 0, 1) := by decide +kernel
theorem dX6_otherwise_60 : decode cX6_otherwise 60 = .ok (.getfield 13, 3) := by decide +kernel
theorem dX6_otherwise_63 : decode cX6_otherwise 63 = .ok (.iload_n 1, 1) := by decide +kernel
theorem dX6_otherwise_64 : decode cX6_otherwise 64 = .ok (.iload_n 2, 1) := by decide +kernel
theorem dX6_otherwise_65 : decode cX6_otherwise 65 = .ok (.iastore, 1) := by decide +kernel
theorem dX6_otherwise_66 : decode cX6_otherwise 66 = .ok (.aload_n 0, 1) := by decide +kernel
theorem dX6_otherwise_67 : decode cX6_otherwise 67 = .ok (.getfield 16, 3) := by decide +kernel
theorem dX6_otherwise_70 : decode cX6_otherwise 70 = .ok (.iload_n 1, 1) := by decide +kernel
theorem dX6_otherwise_71 : decode cX6_otherwise 71 = .ok (.iload_n 3, 1) := by decide +kernel
theorem dX6_otherwise_72 : decode cX6_otherwise 72 = .ok (.iastore, 1) := by decide +kernel
theorem dX6_otherwise_73 : decode cX6_otherwise 73 = .ok (.iconst 0, 1) := by decide +kernel
theorem dX6_otherwise_74 : decode cX6_otherwise 74 = .ok (.istore 6, 2) := by decide +kernel
theorem dX6_otherwise_76 : decode cX6_otherwise 76 = .ok (.iconst 0, 1) := by decide +kernel
theorem dX6_otherwise_77 : decode cX6_otherwise 77 = .ok (.istore 7, 2) := by decide +kernel
theorem dX6_otherwise_79 : decode cX6_otherwise 79 = .ok (.iload 7, 2) := by decide +kernel
theorem dX6_otherwise_81 : decode cX6_otherwise 81 = .ok (.aload_n 0, 1) := by decide +kernel
theorem dX6_otherwise_82 : decode cX6_otherwise 82 = .ok (.getfield 92, 3) := by decide +kernel
theorem dX6_otherwise_85 : decode cX6_otherwise 85 = .ok (.if_icmp .ge 40, 3) := by decide +kernel
theorem dX6_otherwise_88 : decode cX6_otherwise 88 = .ok (.iload 6, 2) := by decide +kernel
theorem dX6_otherwise_90 : decode cX6_otherwise 90 = .ok (.aload_n 0, 1) := by decide +kernel
theorem dX6_otherwise_91 : decode cX6_otherwise 91 = .ok (.aload_n 0, 1) := by decide +kernel
theorem dX6_otherwise_92 : decode cX6_otherwise 92 = .ok (.getfield 33, 3) := by decide +kernel
theorem dX6_otherwise_95 : decode cX6_otherwise 95 = .ok (.iload 7, 2) := by decide +kernel
theorem dX6_otherwise_97 : decode cX6_otherwise 97 = .ok (.iaload, 1) := by decide +kernel
theorem dX6_otherwise_98 : decode cX6_otherwise 98 = .ok (.invokevirtual 101, 3) := by decide +kernel
theorem dX6_otherwise_101 : decode cX6_otherwise 101 = .ok (.aload_n 0, 1) := by decide +kernel
theorem dX6_otherwise_102 : decode cX6_otherwise 102 = .ok (.getfield 42, 3) := by decide +kernel
theorem dX6_otherwise_105 : decode cX6_otherwise 105 = .ok (.iload 7, 2) := by decide +kernel
theorem dX6_otherwise_107 : decode cX6_otherwise 107 = .ok (.iaload, 1) := by decide +kernel
theorem dX6_otherwise_108 : decode cX6_otherwise 108 = .ok (.if_icmp .eq 7, 3) := by decide +kernel
theorem dX6_otherwise_111 : decode cX6_otherwise 111 = .ok (.iconst 1, 1) := by decide +kernel
theorem dX6_otherwise_112 : decode cX6_otherwise 112 = .ok (.goto 4, 3) := by decide +kernel
theorem dX6_otherwise_115 : decode cX6_otherwise 115 = .ok (.iconst 0, 1) := by decide +kernel
theorem dX6_otherwise_116 : decode cX6_otherwise 116 = .ok (.iadd, 1) := by decide +kernel
theorem dX6_otherwise_117 : decode cX6_otherwise 117 = .ok (.istore 6, 2) := by decide +kernel
theorem dX6_otherwise_119 : decode cX6_otherwise 119 = .ok (.iinc 7 1, 3) := by decide +kernel
theorem dX6_otherwise_122 : decode cX6_otherwise 122 = .ok (.goto (-43), 3) := by decide +kernel
theorem dX6_otherwise_125 : decode cX6_otherwise 125 = .ok (.aload_n 0, 1) := by decide +kernel
theorem dX6_otherwise_126 : decode cX6_otherwise 126 = .ok (.getfield 13, 3) := by decide +kernel
theorem dX6_otherwise_129 : decode cX6_otherwise 129 = .ok (.iload_n 1, 1) := by decide +kernel
theorem dX6_otherwise_130 : decode cX6_otherwise 130 = .ok (.iload 4, 2) := by decide +kernel
theorem dX6_otherwise_132 : decode cX6_otherwise 132 = .ok (.iastore, 1) := by decide +kernel
theorem dX6_otherwise_133 : decode cX6_otherwise 133 = .ok (.aload_n 0, 1) := by decide +kernel
theorem dX6_otherwise_134 : decode cX6_otherwise 134 = .ok (.getfield 16, 3) := by decide +kernel
theorem dX6_otherwise_137 : decode cX6_otherwise 137 = .ok (.iload_n 1, 1) := by decide +kernel
theorem dX6_otherwise_138 : decode cX6_otherwise 138 = .ok (.iload 5, 2) := by decide +kernel
theorem dX6_otherwise_140 : decode cX6_otherwise 140 = .ok (.iastore, 1) := by decide +kernel
theorem dX6_otherwise_141 : decode cX6_otherwise 141 = .ok (.iload 6, 2) := by decide +kernel
theorem dX6_otherwise_143 : decode cX6_otherwise 143 = .ok (.ireturn, 1) := by decide +kernel
set_option maxRecDepth 20000 in
theorem ggX6_fewestNow_X6_knownEdges : GoodIn wsX6_fewestNow wsX6_knownEdges := goodIn_r _ [11, 1, 2, 15, 16, 17, 18, 19, 20, 21, 22, 23, 24, 25, 26, 27, 28, 29, 30, 31, 32] (by decide +kernel) (by decide +kernel)
set_option maxRecDepth 20000 in
theorem gX6_fewestNow_X6_knownEdges : GoodIn wsX6_fewestNow (wsV RX6 160 RX6 yX6_knownEdges wsX6_knownEdges) := goodIn_app (goodIn_of _ (by decide +kernel)) ggX6_fewestNow_X6_knownEdges
set_option maxRecDepth 20000 in
theorem ggX6_fewestNow_X6_count : GoodIn wsX6_fewestNow wsX6_count := goodIn_r _ [14] (by decide +kernel) (by decide +kernel)
set_option maxRecDepth 20000 in
theorem gX6_fewestNow_X6_count : GoodIn wsX6_fewestNow (va_wsS RX6 127 yX6_count wsX6_count) := goodIn_app (goodIn_of _ (by decide +kernel)) ggX6_fewestNow_X6_count
theorem dX6_fewestNow_0 : decode cX6_fewestNow 0 = .ok (.aload_n 0, 1) := by decide +kernel
theorem dX6_fewestNow_1 : decode cX6_fewestNow 1 = .ok (.getfield 92, 3) := by decide +kernel
theorem dX6_fewestNow_4 : decode cX6_fewestNow 4 = .ok (.bipush 12, 2) := by decide +kernel
theorem dX6_fewestNow_6 : decode cX6_fewestNow 6 = .ok (.if_icmp .le 5, 3) := by decide +kernel
theorem dX6_fewestNow_9 : decode cX6_fewestNow 9 = .ok (.iconst (-1), 1) := by decide +kernel
theorem dX6_fewestNow_10 : decode cX6_fewestNow 10 = .ok (.ireturn, 1) := by decide +kernel
theorem dX6_fewestNow_11 : decode cX6_fewestNow 11 = .ok (.aload_n 0, 1) := by decide +kernel
theorem dX6_fewestNow_12 : decode cX6_fewestNow 12 = .ok (.invokevirtual 160, 3) := by decide +kernel
theorem dX6_fewestNow_15 : decode cX6_fewestNow 15 = .ok (.istore_n 1, 1) := by decide +kernel
theorem dX6_fewestNow_16 : decode cX6_fewestNow 16 = .ok (.aload_n 0, 1) := by decide +kernel
theorem dX6_fewestNow_17 : decode cX6_fewestNow 17 = .ok (.getfield 92, 3) := by decide +kernel
theorem dX6_fewestNow_20 : decode cX6_fewestNow 20 = .ok (.istore_n 2, 1) := by decide +kernel
theorem dX6_fewestNow_21 : decode cX6_fewestNow 21 = .ok (.iconst 0, 1) := by decide +kernel
theorem dX6_fewestNow_22 : decode cX6_fewestNow 22 = .ok (.istore_n 3, 1) := by decide +kernel
theorem dX6_fewestNow_23 : decode cX6_fewestNow 23 = .ok (.iload_n 3, 1) := by decide +kernel
theorem dX6_fewestNow_24 : decode cX6_fewestNow 24 = .ok (.iconst 1, 1) := by decide +kernel
theorem dX6_fewestNow_25 : decode cX6_fewestNow 25 = .ok (.aload_n 0, 1) := by decide +kernel
theorem dX6_fewestNow_26 : decode cX6_fewestNow 26 = .ok (.getfield 92, 3) := by decide +kernel
theorem dX6_fewestNow_29 : decode cX6_fewestNow 29 = .ok (.ishl, 1) := by decide +kernel
theorem dX6_fewestNow_30 : decode cX6_fewestNow 30 = .ok (.if_icmp .ge 71, 3) := by decide +kernel
theorem dX6_fewestNow_33 : decode cX6_fewestNow 33 = .ok (.iconst 0, 1) := by decide +kernel
theorem dX6_fewestNow_34 : decode cX6_fewestNow 34 = .ok (.istore 4, 2) := by decide +kernel
theorem dX6_fewestNow_36 : decode cX6_fewestNow 36 = .ok (.iconst 0, 1) := by decide +kernel
theorem dX6_fewestNow_37 : decode cX6_fewestNow 37 = .ok (.istore 5, 2) := by decide +kernel
theorem dX6_fewestNow_39 : decode cX6_fewestNow 39 = .ok (.iload 5, 2) := by decide +kernel
theorem dX6_fewestNow_41 : decode cX6_fewestNow 41 = .ok (.aload_n 0, 1) := by decide +kernel
theorem dX6_fewestNow_42 : decode cX6_fewestNow 42 = .ok (.getfield 92, 3) := by decide +kernel
theorem dX6_fewestNow_45 : decode cX6_fewestNow 45 = .ok (.if_icmp .ge 35, 3) := by decide +kernel
theorem dX6_fewestNow_48 : decode cX6_fewestNow 48 = .ok (.iload 4, 2) := by decide +kernel
theorem dX6_fewestNow_50 : decode cX6_fewestNow 50 = .ok (.iload_n 3, 1) := by decide +kernel
theorem dX6_fewestNow_51 : decode cX6_fewestNow 51 = .ok (.iload 5, 2) := by decide +kernel
theorem dX6_fewestNow_53 : decode cX6_fewestNow 53 = .ok (.ishr, 1) := by decide +kernel
theorem dX6_fewestNow_54 : decode cX6_fewestNow 54 = .ok (.iconst 1, 1) := by decide +kernel
theorem dX6_fewestNow_55 : decode cX6_fewestNow 55 = .ok (.iand, 1) := by decide +kernel
theorem dX6_fewestNow_56 : decode cX6_fewestNow 56 = .ok (.iconst 1, 1) := by decide +kernel
theorem dX6_fewestNow_57 : decode cX6_fewestNow 57 = .ok (.if_icmp .ne 13, 3) := by decide +kernel
theorem dX6_fewestNow_60 : decode cX6_fewestNow 60 = .ok (.aload_n 0, 1) := by decide +kernel
theorem dX6_fewestNow_61 : decode cX6_fewestNow 61 = .ok (.getfield 39, 3) := by decide +kernel
theorem dX6_fewestNow_64 : decode cX6_fewestNow 64 = .ok (.iload 5, 2) := by decide +kernel
theorem dX6_fewestNow_66 : decode cX6_fewestNow 66 = .ok (.iaload, 1) := by decide +kernel
theorem dX6_fewestNow_67 : decode cX6_fewestNow 67 = .ok (.goto 4, 3) := by decide +kernel
theorem dX6_fewestNow_70 : decode cX6_fewestNow 70 = .ok (.iconst 0, 1) := by decide +kernel
theorem dX6_fewestNow_71 : decode cX6_fewestNow 71 = .ok (.ior, 1) := by decide +kernel
theorem dX6_fewestNow_72 : decode cX6_fewestNow 72 = .ok (.istore 4, 2) := by decide +kernel
theorem dX6_fewestNow_74 : decode cX6_fewestNow 74 = .ok (.iinc 5 1, 3) := by decide +kernel
theorem dX6_fewestNow_77 : decode cX6_fewestNow 77 = .ok (.goto (-38), 3) := by decide +kernel
theorem dX6_fewestNow_80 : decode cX6_fewestNow 80 = .ok (.iload 4, 2) := by decide +kernel
theorem dX6_fewestNow_82 : decode cX6_fewestNow 82 = .ok (.iload_n 1, 1) := by decide +kernel
theorem dX6_fewestNow_83 : decode cX6_fewestNow 83 = .ok (.if_icmp .ne 12, 3) := by decide +kernel
theorem dX6_fewestNow_86 : decode cX6_fewestNow 86 = .ok (.iload_n 2, 1) := by decide +kernel
theorem dX6_fewestNow_87 : decode cX6_fewestNow 87 = .ok (.iload_n 3, 1) := by decide +kernel
theorem dX6_fewestNow_88 : decode cX6_fewestNow 88 = .ok (.invokestatic 127, 3) := by decide +kernel
theorem dX6_fewestNow_91 : decode cX6_fewestNow 91 = .ok (.invokestatic 178, 3) := by decide +kernel
theorem dX6_fewestNow_94 : decode cX6_fewestNow 94 = .ok (.istore_n 2, 1) := by decide +kernel
theorem dX6_fewestNow_95 : decode cX6_fewestNow 95 = .ok (.iinc 3 1, 3) := by decide +kernel
theorem dX6_fewestNow_98 : decode cX6_fewestNow 98 = .ok (.goto (-75), 3) := by decide +kernel
theorem dX6_fewestNow_101 : decode cX6_fewestNow 101 = .ok (.iload_n 2, 1) := by decide +kernel
theorem dX6_fewestNow_102 : decode cX6_fewestNow 102 = .ok (.ireturn, 1) := by decide +kernel
set_option maxRecDepth 20000 in
theorem ggX6_fewest_X6_fewestNow : GoodIn wsX6_fewest wsX6_fewestNow := goodIn_r _ [6, 7, 8, 9, 10, 11, 12, 13, 14, 15, 5, 16, 17, 18, 19, 20, 21, 22, 23, 24, 25, 26, 27, 28, 29, 30, 31, 32, 33, 34, 35, 36, 37] (by decide +kernel) (by decide +kernel)
set_option maxRecDepth 20000 in
theorem gX6_fewest_X6_fewestNow : GoodIn wsX6_fewest (wsV RX6 190 RX6 yX6_fewestNow wsX6_fewestNow) := goodIn_app (goodIn_of _ (by decide +kernel)) ggX6_fewest_X6_fewestNow
theorem dX6_fewest_0 : decode cX6_fewest 0 = .ok (.aload_n 0, 1) := by decide +kernel
theorem dX6_fewest_1 : decode cX6_fewest 1 = .ok (.iconst 0, 1) := by decide +kernel
theorem dX6_fewest_2 : decode cX6_fewest 2 = .ok (.putfield 57, 3) := by decide +kernel
theorem dX6_fewest_5 : decode cX6_fewest 5 = .ok (.aload_n 0, 1) := by decide +kernel
theorem dX6_fewest_6 : decode cX6_fewest 6 = .ok (.invokevirtual 190, 3) := by decide +kernel
theorem dX6_fewest_9 : decode cX6_fewest 9 = .ok (.ireturn, 1) := by decide +kernel
set_option maxRecDepth 20000 in
theorem ggX6_smallest_X6_isIn : GoodIn wsX6_smallest wsX6_isIn := goodIn_r _ [5] (by decide +kernel) (by decide +kernel)
set_option maxRecDepth 20000 in
theorem gX6_smallest_X6_isIn : GoodIn wsX6_smallest (va_wsS RX6 60 yX6_isIn wsX6_isIn) := goodIn_app (goodIn_of _ (by decide +kernel)) ggX6_smallest_X6_isIn
set_option maxRecDepth 20000 in
theorem ggX6_smallest_X6_no : GoodIn wsX6_smallest wsX6_no := goodIn_r _ [9, 1, 41, 42, 43, 44, 45, 46, 47, 48, 49, 50, 51, 52, 53, 54, 55, 56, 57, 58] (by decide +kernel) (by decide +kernel)
set_option maxRecDepth 20000 in
theorem gX6_smallest_X6_no : GoodIn wsX6_smallest (wsV RX6 118 RX6 yX6_no wsX6_no) := goodIn_app (goodIn_of _ (by decide +kernel)) ggX6_smallest_X6_no
set_option maxRecDepth 20000 in
theorem ggX6_smallest_X6_isCase : GoodIn wsX6_smallest wsX6_isCase := goodIn_r _ [12, 2, 3, 4, 5] (by decide +kernel) (by decide +kernel)
set_option maxRecDepth 20000 in
theorem gX6_smallest_X6_isCase : GoodIn wsX6_smallest (va_wsS RX6 124 yX6_isCase wsX6_isCase) := goodIn_app (goodIn_of _ (by decide +kernel)) ggX6_smallest_X6_isCase
set_option maxRecDepth 20000 in
theorem ggX6_smallest_X6_edgesOf : GoodIn wsX6_smallest wsX6_edgesOf := goodIn_r _ [16, 17, 18, 19, 4, 20, 21, 22, 23, 24, 25, 26, 27, 28, 29, 30, 31, 32, 33, 34, 35, 36, 37, 38, 39, 40, 41, 42, 43, 44, 45, 46, 47, 48, 49, 50, 51, 52, 53, 54, 55, 56, 57, 58] (by decide +kernel) (by decide +kernel)
set_option maxRecDepth 20000 in
theorem gX6_smallest_X6_edgesOf : GoodIn wsX6_smallest (wsV RX6 98 RX6 yX6_edgesOf wsX6_edgesOf) := goodIn_app (goodIn_of _ (by decide +kernel)) ggX6_smallest_X6_edgesOf
theorem dX6_smallest_0 : decode cX6_smallest 0 = .ok (.aload_n 0, 1) := by decide +kernel
theorem dX6_smallest_1 : decode cX6_smallest 1 = .ok (.iconst 0, 1) := by decide +kernel
theorem dX6_smallest_2 : decode cX6_smallest 2 = .ok (.putfield 57, 3) := by decide +kernel
theorem dX6_smallest_5 : decode cX6_smallest 5 = .ok (.iload_n 1, 1) := by decide +kernel
theorem dX6_smallest_6 : decode cX6_smallest 6 = .ok (.iconst 0, 1) := by decide +kernel
theorem dX6_smallest_7 : decode cX6_smallest 7 = .ok (.bipush 23, 2) := by decide +kernel
theorem dX6_smallest_9 : decode cX6_smallest 9 = .ok (.invokestatic 60, 3) := by decide +kernel
theorem dX6_smallest_12 : decode cX6_smallest 12 = .ok (.ifCond .ne 9, 3) := by decide +kernel
theorem dX6_smallest_15 : decode cX6_smallest 15 = .ok (.aload_n 0, 1) := by decide +kernel
theorem dX6_smallest_16 : decode cX6_smallest 16 = .ok (.iconst 1, 1) := by decide +kernel
theorem dX6_smallest_17 : decode cX6_smallest 17 = .ok (.invokevirtual 118, 3) := by decide +kernel
theorem dX6_smallest_20 : decode cX6_smallest 20 = .ok (.ireturn, 1) := by decide +kernel
theorem dX6_smallest_21 : decode cX6_smallest 21 = .ok (.iload_n 2, 1) := by decide +kernel
theorem dX6_smallest_22 : decode cX6_smallest 22 = .ok (.invokestatic 124, 3) := by decide +kernel
theorem dX6_smallest_25 : decode cX6_smallest 25 = .ok (.ifCond .ne 9, 3) := by decide +kernel
theorem dX6_smallest_28 : decode cX6_smallest 28 = .ok (.aload_n 0, 1) := by decide +kernel
theorem dX6_smallest_29 : decode cX6_smallest 29 = .ok (.iconst 2, 1) := by decide +kernel
theorem dX6_smallest_30 : decode cX6_smallest 30 = .ok (.invokevirtual 118, 3) := by decide +kernel
theorem dX6_smallest_33 : decode cX6_smallest 33 = .ok (.ireturn, 1) := by decide +kernel
theorem dX6_smallest_34 : decode cX6_smallest 34 = .ok (.iload_n 2, 1) := by decide +kernel
theorem dX6_smallest_35 : decode cX6_smallest 35 = .ok (.bipush 100, 2) := by decide +kernel
theorem dX6_smallest_37 : decode cX6_smallest 37 = .ok (.idiv, 1) := by decide +kernel
theorem dX6_smallest_38 : decode cX6_smallest 38 = .ok (.bipush 100, 2) := by decide +kernel
theorem dX6_smallest_40 : decode cX6_smallest 40 = .ok (.imul, 1) := by decide +kernel
theorem dX6_smallest_41 : decode cX6_smallest 41 = .ok (.istore_n 3, 1) := by decide +kernel
theorem dX6_smallest_42 : decode cX6_smallest 42 = .ok (.iload_n 3, 1) := by decide +kernel
theorem dX6_smallest_43 : decode cX6_smallest 43 = .ok (.istore 4, 2) := by decide +kernel
theorem dX6_smallest_45 : decode cX6_smallest 45 = .ok (.iload 4, 2) := by decide +kernel
theorem dX6_smallest_47 : decode cX6_smallest 47 = .ok (.iload_n 3, 1) := by decide +kernel
theorem dX6_smallest_48 : decode cX6_smallest 48 = .ok (.bipush 100, 2) := by decide +kernel
theorem dX6_smallest_50 : decode cX6_smallest 50 = .ok (.iadd, 1) := by decide +kernel
theorem dX6_smallest_51 : decode cX6_smallest 51 = .ok (.if_icmp .ge 26, 3) := by decide +kernel
theorem dX6_smallest_54 : decode cX6_smallest 54 = .ok (.aload_n 0, 1) := by decide +kernel
theorem dX6_smallest_55 : decode cX6_smallest 55 = .ok (.iload 4, 2) := by decide +kernel
theorem dX6_smallest_57 : decode cX6_smallest 57 = .ok (.invokevirtual 98, 3) := by decide +kernel
theorem dX6_smallest_60 : decode cX6_smallest 60 = .ok (.iload_n 1, 1) := by decide +kernel
theorem dX6_smallest_61 : decode cX6_smallest 61 = .ok (.ishr, 1) := by decide +kernel
theorem dX6_smallest_62 : decode cX6_smallest 62 = .ok (.iconst 1, 1) := by decide +kernel
theorem dX6_smallest_63 : decode cX6_smallest 63 = .ok (.iand, 1) := by decide +kernel
theorem dX6_smallest_64 : decode cX6_smallest 64 = .ok (.iconst 1, 1) := by decide +kernel
theorem dX6_smallest_65 : decode cX6_smallest 65 = .ok (.if_icmp .ne 6, 3) := by decide +kernel
theorem dX6_smallest_68 : decode cX6_smallest 68 = .ok (.iload 4, 2) := by decide +kernel
theorem dX6_smallest_70 : decode cX6_smallest 70 = .ok (.ireturn, 1) := by decide +kernel
theorem dX6_smallest_71 : decode cX6_smallest 71 = .ok (.iinc 4 1, 3) := by decide +kernel
theorem dX6_smallest_74 : decode cX6_smallest 74 = .ok (.goto (-29), 3) := by decide +kernel
theorem dX6_smallest_77 : decode cX6_smallest 77 = .ok (.iconst (-1), 1) := by decide +kernel
theorem dX6_smallest_78 : decode cX6_smallest 78 = .ok (.ireturn, 1) := by decide +kernel
set_option maxRecDepth 20000 in
theorem ggX6_aheadNow_X6_make : GoodIn wsX6_aheadNow wsX6_make := goodIn_r _ [7, 8, 9, 10, 11, 6, 12, 1, 41, 42, 43, 44, 45, 46, 47, 48, 49, 50, 51, 52, 53, 54, 55, 56, 57, 58] (by decide +kernel) (by decide +kernel)
set_option maxRecDepth 20000 in
theorem gX6_aheadNow_X6_make : GoodIn wsX6_aheadNow (wsV RX6 136 RX6 yX6_make wsX6_make) := goodIn_app (goodIn_of _ (by decide +kernel)) ggX6_aheadNow_X6_make
set_option maxRecDepth 20000 in
theorem ggX6_aheadNow_X6_resultOf : GoodIn wsX6_aheadNow wsX6_resultOf := goodIn_r _ [16, 17, 18, 19, 6, 20, 21, 22, 23, 24, 25, 26, 27, 28, 29, 30, 31, 32, 33, 34, 35, 36, 37, 38, 39, 40, 41, 42, 43, 44, 45, 46, 47, 48, 49, 50, 51, 52, 53, 54, 55, 56, 57, 58] (by decide +kernel) (by decide +kernel)
set_option maxRecDepth 20000 in
theorem gX6_aheadNow_X6_resultOf : GoodIn wsX6_aheadNow (wsV RX6 101 RX6 yX6_resultOf wsX6_resultOf) := goodIn_app (goodIn_of _ (by decide +kernel)) ggX6_aheadNow_X6_resultOf
theorem dX6_aheadNow_0 : decode cX6_aheadNow 0 = .ok (.aload_n 0, 1) := by decide +kernel
theorem dX6_aheadNow_1 : decode cX6_aheadNow 1 = .ok (.getfield 26, 3) := by decide +kernel
theorem dX6_aheadNow_4 : decode cX6_aheadNow 4 = .ok (.istore_n 2, 1) := by decide +kernel
theorem dX6_aheadNow_5 : decode cX6_aheadNow 5 = .ok (.bipush 113, 2) := by decide +kernel
theorem dX6_aheadNow_7 : decode cX6_aheadNow 7 = .ok (.newarray .boolean, 2) := by decide +kernel
theorem dX6_aheadNow_9 : decode cX6_aheadNow 9 = .ok (.astore_n 3, 1) := by decide +kernel
theorem dX6_aheadNow_10 : decode cX6_aheadNow 10 = .ok (.iconst 0, 1) := by decide +kernel
theorem dX6_aheadNow_11 : decode cX6_aheadNow 11 = .ok (.istore 4, 2) := by decide +kernel
theorem dX6_aheadNow_13 : decode cX6_aheadNow 13 = .ok (.iconst 0, 1) := by decide +kernel
theorem dX6_aheadNow_14 : decode cX6_aheadNow 14 = .ok (.istore 5, 2) := by decide +kernel
theorem dX6_aheadNow_16 : decode cX6_aheadNow 16 = .ok (.iload 5, 2) := by decide +kernel
theorem dX6_aheadNow_18 : decode cX6_aheadNow 18 = .ok (.iload_n 1, 1) := by decide +kernel
theorem dX6_aheadNow_19 : decode cX6_aheadNow 19 = .ok (.if_icmp .ge 41, 3) := by decide +kernel
theorem dX6_aheadNow_22 : decode cX6_aheadNow 22 = .ok (.aload_n 0, 1) := by decide +kernel
theorem dX6_aheadNow_23 : decode cX6_aheadNow 23 = .ok (.aload_n 0, 1) := by decide +kernel
theorem dX6_aheadNow_24 : decode cX6_aheadNow 24 = .ok (.invokevirtual 136, 3) := by decide +kernel
theorem dX6_aheadNow_27 : decode cX6_aheadNow 27 = .ok (.invokevirtual 101, 3) := by decide +kernel
theorem dX6_aheadNow_30 : decode cX6_aheadNow 30 = .ok (.istore 6, 2) := by decide +kernel
theorem dX6_aheadNow_32 : decode cX6_aheadNow 32 = .ok (.iload 4, 2) := by decide +kernel
theorem dX6_aheadNow_34 : decode cX6_aheadNow 34 = .ok (.aload_n 3, 1) := by decide +kernel
theorem dX6_aheadNow_35 : decode cX6_aheadNow 35 = .ok (.iload 6, 2) := by decide +kernel
theorem dX6_aheadNow_37 : decode cX6_aheadNow 37 = .ok (.baload, 1) := by decide +kernel
theorem dX6_aheadNow_38 : decode cX6_aheadNow 38 = .ok (.ifCond .eq 7, 3) := by decide +kernel
theorem dX6_aheadNow_41 : decode cX6_aheadNow 41 = .ok (.iconst 0, 1) := by decide +kernel
theorem dX6_aheadNow_42 : decode cX6_aheadNow 42 = .ok (.goto 4, 3) := by decide +kernel
theorem dX6_aheadNow_45 : decode cX6_aheadNow 45 = .ok (.iconst 1, 1) := by decide +kernel
theorem dX6_aheadNow_46 : decode cX6_aheadNow 46 = .ok (.iadd, 1) := by decide +kernel
theorem dX6_aheadNow_47 : decode cX6_aheadNow 47 = .ok (.istore 4, 2) := by decide +kernel
theorem dX6_aheadNow_49 : decode cX6_aheadNow 49 = .ok (.aload_n 3, 1) := by decide +kernel
theorem dX6_aheadNow_50 : decode cX6_aheadNow 50 = .ok (.iload 6, 2) := by decide +kernel
theorem dX6_aheadNow_52 : decode cX6_aheadNow 52 = .ok (.iconst 1, 1) := by decide +kernel
theorem dX6_aheadNow_53 : decode cX6_aheadNow 53 = .ok (.bastore, 1) := by decide +kernel
theorem dX6_aheadNow_54 : decode cX6_aheadNow 54 = .ok (.iinc 5 1, 3) := by decide +kernel
theorem dX6_aheadNow_57 : decode cX6_aheadNow 57 = .ok (.goto (-41), 3) := by decide +kernel
theorem dX6_aheadNow_60 : decode cX6_aheadNow 60 = .ok (.aload_n 0, 1) := by decide +kernel
theorem dX6_aheadNow_61 : decode cX6_aheadNow 61 = .ok (.iload_n 2, 1) := by decide +kernel
theorem dX6_aheadNow_62 : decode cX6_aheadNow 62 = .ok (.putfield 26, 3) := by decide +kernel
theorem dX6_aheadNow_65 : decode cX6_aheadNow 65 = .ok (.iload 4, 2) := by decide +kernel
theorem dX6_aheadNow_67 : decode cX6_aheadNow 67 = .ok (.ireturn, 1) := by decide +kernel
set_option maxRecDepth 20000 in
theorem ggX6_ahead_X6_isIn : GoodIn wsX6_ahead wsX6_isIn := goodIn_r _ [5] (by decide +kernel) (by decide +kernel)
set_option maxRecDepth 20000 in
theorem gX6_ahead_X6_isIn : GoodIn wsX6_ahead (va_wsS RX6 60 yX6_isIn wsX6_isIn) := goodIn_app (goodIn_of _ (by decide +kernel)) ggX6_ahead_X6_isIn
set_option maxRecDepth 20000 in
theorem ggX6_ahead_X6_aheadNow : GoodIn wsX6_ahead wsX6_aheadNow := goodIn_r _ [9, 10, 11, 12, 13, 14, 4, 15, 16, 17, 18, 19, 20, 21, 22, 23, 24, 25, 26, 27, 28, 29, 30, 31, 32, 33, 34, 35, 36, 37, 38, 39, 40, 41, 42, 43, 44, 45, 46, 47, 48, 53, 54, 55, 56, 57, 58, 59, 60, 61, 62, 63, 64, 65, 66, 67, 68, 69, 70] (by decide +kernel) (by decide +kernel)
set_option maxRecDepth 20000 in
theorem gX6_ahead_X6_aheadNow : GoodIn wsX6_ahead (wsV RX6 193 RX6 yX6_aheadNow wsX6_aheadNow) := goodIn_app (goodIn_of _ (by decide +kernel)) ggX6_ahead_X6_aheadNow
set_option maxRecDepth 20000 in
theorem ggX6_ahead_X6_no : GoodIn wsX6_ahead wsX6_no := goodIn_r _ [52, 1, 53, 54, 55, 56, 57, 58, 59, 60, 61, 62, 63, 64, 65, 66, 67, 68, 69, 70] (by decide +kernel) (by decide +kernel)
set_option maxRecDepth 20000 in
theorem gX6_ahead_X6_no : GoodIn wsX6_ahead (wsV RX6 118 RX6 yX6_no wsX6_no) := goodIn_app (goodIn_of _ (by decide +kernel)) ggX6_ahead_X6_no
theorem dX6_ahead_0 : decode cX6_ahead 0 = .ok (.aload_n 0, 1) := by decide +kernel
theorem dX6_ahead_1 : decode cX6_ahead 1 = .ok (.iconst 0, 1) := by decide +kernel
theorem dX6_ahead_2 : decode cX6_ahead 2 = .ok (.putfield 57, 3) := by decide +kernel
theorem dX6_ahead_5 : decode cX6_ahead 5 = .ok (.iload_n 1, 1) := by decide +kernel
theorem dX6_ahead_6 : decode cX6_ahead 6 = .ok (.iconst 1, 1) := by decide +kernel
theorem dX6_ahead_7 : decode cX6_ahead 7 = .ok (.bipush 50, 2) := by decide +kernel
theorem dX6_ahead_9 : decode cX6_ahead 9 = .ok (.invokestatic 60, 3) := by decide +kernel
theorem dX6_ahead_12 : decode cX6_ahead 12 = .ok (.ifCond .eq 11, 3) := by decide +kernel
theorem dX6_ahead_15 : decode cX6_ahead 15 = .ok (.aload_n 0, 1) := by decide +kernel
theorem dX6_ahead_16 : decode cX6_ahead 16 = .ok (.iload_n 1, 1) := by decide +kernel
theorem dX6_ahead_17 : decode cX6_ahead 17 = .ok (.invokevirtual 193, 3) := by decide +kernel
theorem dX6_ahead_20 : decode cX6_ahead 20 = .ok (.goto 8, 3) := by decide +kernel
theorem dX6_ahead_23 : decode cX6_ahead 23 = .ok (.aload_n 0, 1) := by decide +kernel
theorem dX6_ahead_24 : decode cX6_ahead 24 = .ok (.iconst 1, 1) := by decide +kernel
theorem dX6_ahead_25 : decode cX6_ahead 25 = .ok (.invokevirtual 118, 3) := by decide +kernel
theorem dX6_ahead_28 : decode cX6_ahead 28 = .ok (.ireturn, 1) := by decide +kernel
set_option maxRecDepth 20000 in
theorem ggX6_digest_X6_manyNow : GoodIn wsX6_digest wsX6_manyNow := goodIn_r _ [10, 4, 5, 11, 12, 13, 14, 9, 15, 16, 17, 18, 19, 20, 21, 22, 23, 24, 25, 26, 27, 28, 29, 30, 31, 32, 33, 34, 35, 36, 37, 38, 39, 40, 41, 42, 139, 140, 141, 142, 143, 144, 145, 146, 147, 148, 149, 150, 151, 152, 153, 154, 155, 156] (by decide +kernel) (by decide +kernel)
set_option maxRecDepth 20000 in
theorem gX6_digest_X6_manyNow : GoodIn wsX6_digest (wsV RX6 172 RX6 yX6_manyNow wsX6_manyNow) := goodIn_app (goodIn_of _ (by decide +kernel)) ggX6_digest_X6_manyNow
set_option maxRecDepth 20000 in
theorem ggX6_digest_X6_ofNow : GoodIn wsX6_digest wsX6_ofNow := goodIn_r _ [46, 47, 16, 48, 37, 21, 49, 50, 51, 9, 52, 53, 54, 55, 56, 17, 18, 19, 20, 4, 22, 23, 24, 33, 34, 35, 36, 139, 140, 141, 142, 143, 144, 145, 146, 147, 148, 149, 150, 151, 152, 153, 154, 155, 156] (by decide +kernel) (by decide +kernel)
set_option maxRecDepth 20000 in
theorem gX6_digest_X6_ofNow : GoodIn wsX6_digest (wsV RX6 154 RX6 yX6_ofNow wsX6_ofNow) := goodIn_app (goodIn_of _ (by decide +kernel)) ggX6_digest_X6_ofNow
set_option maxRecDepth 20000 in
theorem ggX6_digest_X6_ofEdgeNow : GoodIn wsX6_digest wsX6_ofEdgeNow := goodIn_r _ [60, 4, 21, 16, 139, 140, 141, 142, 143, 144, 145, 146, 147, 148, 149, 150, 151, 152, 153, 154, 155, 156] (by decide +kernel) (by decide +kernel)
set_option maxRecDepth 20000 in
theorem gX6_digest_X6_ofEdgeNow : GoodIn wsX6_digest (wsV RX6 157 RX6 yX6_ofEdgeNow wsX6_ofEdgeNow) := goodIn_app (goodIn_of _ (by decide +kernel)) ggX6_digest_X6_ofEdgeNow
set_option maxRecDepth 20000 in
theorem ggX6_digest_X6_brokenNow : GoodIn wsX6_digest wsX6_brokenNow := goodIn_r _ [64, 4, 47, 65, 66, 67, 9, 68, 69, 70, 71, 72, 55, 73, 74, 75, 76, 77, 78, 79, 80, 81, 82, 83, 84, 85, 86, 87, 88, 89, 90, 91, 92, 93, 42, 94, 95, 96, 97, 98, 99, 100, 101, 102, 103, 104, 139, 140, 141, 142, 143, 144, 145, 146, 147, 148, 149, 150, 151, 152, 153, 154, 155, 156] (by decide +kernel) (by decide +kernel)
set_option maxRecDepth 20000 in
theorem gX6_digest_X6_brokenNow : GoodIn wsX6_digest (wsV RX6 184 RX6 yX6_brokenNow wsX6_brokenNow) := goodIn_app (goodIn_of _ (by decide +kernel)) ggX6_digest_X6_brokenNow
set_option maxRecDepth 20000 in
theorem ggX6_digest_X6_fewestNow : GoodIn wsX6_digest wsX6_fewestNow := goodIn_r _ [108, 4, 21, 71, 72, 55, 73, 25, 26, 27, 9, 28, 22, 23, 24, 139, 140, 141, 142, 143, 144, 145, 146, 147, 148, 149, 150, 151, 152, 153, 154, 155, 156] (by decide +kernel) (by decide +kernel)
set_option maxRecDepth 20000 in
theorem gX6_digest_X6_fewestNow : GoodIn wsX6_digest (wsV RX6 190 RX6 yX6_fewestNow wsX6_fewestNow) := goodIn_app (goodIn_of _ (by decide +kernel)) ggX6_digest_X6_fewestNow
set_option maxRecDepth 20000 in
theorem ggX6_digest_X6_aheadNow : GoodIn wsX6_digest wsX6_aheadNow := goodIn_r _ [112, 11, 113, 114, 115, 116, 9, 117, 118, 119, 120, 121, 122, 84, 85, 86, 87, 88, 89, 90, 91, 92, 93, 42, 94, 95, 96, 97, 98, 99, 100, 101, 102, 103, 104, 75, 76, 77, 78, 79, 80, 139, 140, 141, 142, 143, 144, 145, 146, 147, 148, 149, 150, 151, 152, 153, 154, 155, 156] (by decide +kernel) (by decide +kernel)
set_option maxRecDepth 20000 in
theorem gX6_digest_X6_aheadNow : GoodIn wsX6_digest (wsV RX6 193 RX6 yX6_aheadNow wsX6_aheadNow) := goodIn_app (goodIn_of _ (by decide +kernel)) ggX6_digest_X6_aheadNow
set_option maxRecDepth 20000 in
theorem ggX6_digest_X6_resultOf : GoodIn wsX6_digest wsX6_resultOf := goodIn_r _ [87, 88, 89, 90, 9, 91, 92, 93, 42, 94, 95, 96, 97, 98, 99, 100, 101, 102, 103, 104, 75, 76, 77, 78, 79, 80, 139, 140, 141, 142, 143, 144, 145, 146, 147, 148, 149, 150, 151, 152, 153, 154, 155, 156] (by decide +kernel) (by decide +kernel)
set_option maxRecDepth 20000 in
theorem gX6_digest_X6_resultOf : GoodIn wsX6_digest (wsV RX6 101 RX6 yX6_resultOf wsX6_resultOf) := goodIn_app (goodIn_of _ (by decide +kernel)) ggX6_digest_X6_resultOf
set_option maxRecDepth 20000 in
theorem ggX6_digest_X6_edgesOf : GoodIn wsX6_digest wsX6_edgesOf := goodIn_r _ [126, 88, 89, 90, 9, 91, 92, 93, 42, 94, 95, 96, 97, 98, 99, 100, 101, 102, 103, 104, 75, 76, 77, 78, 79, 80, 139, 140, 141, 142, 143, 144, 145, 146, 147, 148, 149, 150, 151, 152, 153, 154, 155, 156] (by decide +kernel) (by decide +kernel)
set_option maxRecDepth 20000 in
theorem gX6_digest_X6_edgesOf : GoodIn wsX6_digest (wsV RX6 98 RX6 yX6_edgesOf wsX6_edgesOf) := goodIn_app (goodIn_of _ (by decide +kernel)) ggX6_digest_X6_edgesOf
set_option maxRecDepth 20000 in
theorem ggX6_digest_X6_count : GoodIn wsX6_digest wsX6_count := goodIn_r _ [24] (by decide +kernel) (by decide +kernel)
set_option maxRecDepth 20000 in
theorem gX6_digest_X6_count : GoodIn wsX6_digest (va_wsS RX6 127 yX6_count wsX6_count) := goodIn_app (goodIn_of _ (by decide +kernel)) ggX6_digest_X6_count
set_option maxRecDepth 20000 in
theorem ggX6_digest_X6_wouldDropNow : GoodIn wsX6_digest wsX6_wouldDropNow := goodIn_r _ [130, 113, 16, 94, 95, 96, 97, 4, 21, 37, 123, 124, 125, 9, 126, 88, 89, 90, 91, 92, 93, 42, 98, 99, 100, 101, 102, 103, 104, 75, 76, 77, 78, 79, 80, 84, 85, 86, 87, 131, 132, 133, 134, 47, 135, 136, 137, 138, 17, 18, 19, 20, 33, 34, 35, 36, 12, 13, 14, 15, 139, 140, 141, 142, 143, 144, 145, 146, 147, 148, 149, 150, 151, 152, 153, 154, 155, 156] (by decide +kernel) (by decide +kernel)
set_option maxRecDepth 20000 in
theorem gX6_digest_X6_wouldDropNow : GoodIn wsX6_digest (wsV RX6 187 RX6 yX6_wouldDropNow wsX6_wouldDropNow) := goodIn_app (goodIn_of _ (by decide +kernel)) ggX6_digest_X6_wouldDropNow
theorem dX6_digest_0 : decode cX6_digest 0 = .ok (.aload_n 0, 1) := by decide +kernel
theorem dX6_digest_1 : decode cX6_digest 1 = .ok (.iconst 0, 1) := by decide +kernel
theorem dX6_digest_2 : decode cX6_digest 2 = .ok (.putfield 57, 3) := by decide +kernel
theorem dX6_digest_5 : decode cX6_digest 5 = .ok (.ldc2_w 196, 3) := by decide +kernel
theorem dX6_digest_8 : decode cX6_digest 8 = .ok (.lstore_n 1, 1) := by decide +kernel
theorem dX6_digest_9 : decode cX6_digest 9 = .ok (.iconst 0, 1) := by decide +kernel
theorem dX6_digest_10 : decode cX6_digest 10 = .ok (.istore_n 3, 1) := by decide +kernel
theorem dX6_digest_11 : decode cX6_digest 11 = .ok (.iload_n 3, 1) := by decide +kernel
theorem dX6_digest_12 : decode cX6_digest 12 = .ok (.bipush 8, 2) := by decide +kernel
theorem dX6_digest_14 : decode cX6_digest 14 = .ok (.if_icmp .ge 22, 3) := by decide +kernel
theorem dX6_digest_17 : decode cX6_digest 17 = .ok (.lload_n 1, 1) := by decide +kernel
theorem dX6_digest_18 : decode cX6_digest 18 = .ok (.ldc2_w 198, 3) := by decide +kernel
theorem dX6_digest_21 : decode cX6_digest 21 = .ok (.lmul, 1) := by decide +kernel
theorem dX6_digest_22 : decode cX6_digest 22 = .ok (.aload_n 0, 1) := by decide +kernel
theorem dX6_digest_23 : decode cX6_digest 23 = .ok (.iload_n 3, 1) := by decide +kernel
theorem dX6_digest_24 : decode cX6_digest 24 = .ok (.invokevirtual 172, 3) := by decide +kernel
theorem dX6_digest_27 : decode cX6_digest 27 = .ok (.i2l, 1) := by decide +kernel
theorem dX6_digest_28 : decode cX6_digest 28 = .ok (.ladd, 1) := by decide +kernel
theorem dX6_digest_29 : decode cX6_digest 29 = .ok (.lstore_n 1, 1) := by decide +kernel
theorem dX6_digest_30 : decode cX6_digest 30 = .ok (.iinc 3 1, 3) := by decide +kernel
theorem dX6_digest_33 : decode cX6_digest 33 = .ok (.goto (-22), 3) := by decide +kernel
theorem dX6_digest_36 : decode cX6_digest 36 = .ok (.iconst 0, 1) := by decide +kernel
theorem dX6_digest_37 : decode cX6_digest 37 = .ok (.istore_n 3, 1) := by decide +kernel
theorem dX6_digest_38 : decode cX6_digest 38 = .ok (.iload_n 3, 1) := by decide +kernel
theorem dX6_digest_39 : decode cX6_digest 39 = .ok (.aload_n 0, 1) := by decide +kernel
theorem dX6_digest_40 : decode cX6_digest 40 = .ok (.getfield 92, 3) := by decide +kernel
theorem dX6_digest_43 : decode cX6_digest 43 = .ok (.if_icmp .ge 40, 3) := by decide +kernel
theorem dX6_digest_46 : decode cX6_digest 46 = .ok (.iconst 0, 1) := by decide +kernel
theorem dX6_digest_47 : decode cX6_digest 47 = .ok (.istore 4, 2) := by decide +kernel
theorem dX6_digest_49 : decode cX6_digest 49 = .ok (.iload 4, 2) := by decide +kernel
theorem dX6_digest_51 : decode cX6_digest 51 = .ok (.bipush 7, 2) := by decide +kernel
theorem dX6_digest_53 : decode cX6_digest 53 = .ok (.if_icmp .ge 24, 3) := by decide +kernel
theorem dX6_digest_56 : decode cX6_digest 56 = .ok (.lload_n 1, 1) := by decide +kernel
theorem dX6_digest_57 : decode cX6_digest 57 = .ok (.ldc2_w 198, 3) := by decide +kernel
theorem dX6_digest_60 : decode cX6_digest 60 = .ok (.lmul, 1) := by decide +kernel
theorem dX6_digest_61 : decode cX6_digest 61 = .ok (.aload_n 0, 1) := by decide +kernel
theorem dX6_digest_62 : decode cX6_digest 62 = .ok (.iload_n 3, 1) := by decide +kernel
theorem dX6_digest_63 : decode cX6_digest 63 = .ok (.iload 4, 2) := by decide +kernel
theorem dX6_digest_65 : decode cX6_digest 65 = .ok (.invokevirtual 154, 3) := by decide +kernel
theorem dX6_digest_68 : decode cX6_digest 68 = .ok (.i2l, 1) := by decide +kernel
theorem dX6_digest_69 : decode cX6_digest 69 = .ok (.ladd, 1) := by decide +kernel
theorem dX6_digest_70 : decode cX6_digest 70 = .ok (.lstore_n 1, 1) := by decide +kernel
theorem dX6_digest_71 : decode cX6_digest 71 = .ok (.iinc 4 1, 3) := by decide +kernel
theorem dX6_digest_74 : decode cX6_digest 74 = .ok (.goto (-25), 3) := by decide +kernel
theorem dX6_digest_77 : decode cX6_digest 77 = .ok (.iinc 3 1, 3) := by decide +kernel
theorem dX6_digest_80 : decode cX6_digest 80 = .ok (.goto (-42), 3) := by decide +kernel
theorem dX6_digest_83 : decode cX6_digest 83 = .ok (.iconst 0, 1) := by decide +kernel
theorem dX6_digest_84 : decode cX6_digest 84 = .ok (.istore_n 3, 1) := by decide +kernel
theorem dX6_digest_85 : decode cX6_digest 85 = .ok (.iload_n 3, 1) := by decide +kernel
theorem dX6_digest_86 : decode cX6_digest 86 = .ok (.bipush 24, 2) := by decide +kernel
theorem dX6_digest_88 : decode cX6_digest 88 = .ok (.if_icmp .ge 39, 3) := by decide +kernel
theorem dX6_digest_91 : decode cX6_digest 91 = .ok (.iconst 0, 1) := by decide +kernel
theorem dX6_digest_92 : decode cX6_digest 92 = .ok (.istore 4, 2) := by decide +kernel
theorem dX6_digest_94 : decode cX6_digest 94 = .ok (.iload 4, 2) := by decide +kernel
theorem dX6_digest_96 : decode cX6_digest 96 = .ok (.iconst 3, 1) := by decide +kernel
theorem dX6_digest_97 : decode cX6_digest 97 = .ok (.if_icmp .ge 24, 3) := by decide +kernel
theorem dX6_digest_100 : decode cX6_digest 100 = .ok (.lload_n 1, 1) := by decide +kernel
theorem dX6_digest_101 : decode cX6_digest 101 = .ok (.ldc2_w 198, 3) := by decide +kernel
theorem dX6_digest_104 : decode cX6_digest 104 = .ok (.lmul, 1) := by decide +kernel
theorem dX6_digest_105 : decode cX6_digest 105 = .ok (.aload_n 0, 1) := by decide +kernel
theorem dX6_digest_106 : decode cX6_digest 106 = .ok (.iload_n 3, 1) := by decide +kernel
theorem dX6_digest_107 : decode cX6_digest 107 = .ok (.iload 4, 2) := by decide +kernel
theorem dX6_digest_109 : decode cX6_digest 109 = .ok (.invokevirtual 157, 3) := by decide +kernel
theorem dX6_digest_112 : decode cX6_digest 112 = .ok (.i2l, 1) := by decide +kernel
theorem dX6_digest_113 : decode cX6_digest 113 = .ok (.ladd, 1) := by decide +kernel
theorem dX6_digest_114 : decode cX6_digest 114 = .ok (.lstore_n 1, 1) := by decide +kernel
theorem dX6_digest_115 : decode cX6_digest 115 = .ok (.iinc 4 1, 3) := by decide +kernel
theorem dX6_digest_118 : decode cX6_digest 118 = .ok (.goto (-24), 3) := by decide +kernel
theorem dX6_digest_121 : decode cX6_digest 121 = .ok (.iinc 3 1, 3) := by decide +kernel
theorem dX6_digest_124 : decode cX6_digest 124 = .ok (.goto (-39), 3) := by decide +kernel
theorem dX6_digest_127 : decode cX6_digest 127 = .ok (.iconst 0, 1) := by decide +kernel
theorem dX6_digest_128 : decode cX6_digest 128 = .ok (.istore_n 3, 1) := by decide +kernel
theorem dX6_digest_129 : decode cX6_digest 129 = .ok (.iload_n 3, 1) := by decide +kernel
theorem dX6_digest_130 : decode cX6_digest 130 = .ok (.aload_n 0, 1) := by decide +kernel
theorem dX6_digest_131 : decode cX6_digest 131 = .ok (.getfield 166, 3) := by decide +kernel
theorem dX6_digest_134 : decode cX6_digest 134 = .ok (.if_icmp .ge 22, 3) := by decide +kernel
theorem dX6_digest_137 : decode cX6_digest 137 = .ok (.lload_n 1, 1) := by decide +kernel
theorem dX6_digest_138 : decode cX6_digest 138 = .ok (.ldc2_w 198, 3) := by decide +kernel
theorem dX6_digest_141 : decode cX6_digest 141 = .ok (.lmul, 1) := by decide +kernel
theorem dX6_digest_142 : decode cX6_digest 142 = .ok (.aload_n 0, 1) := by decide +kernel
theorem dX6_digest_143 : decode cX6_digest 143 = .ok (.iload_n 3, 1) := by decide +kernel
theorem dX6_digest_144 : decode cX6_digest 144 = .ok (.invokevirtual 184, 3) := by decide +kernel
theorem dX6_digest_147 : decode cX6_digest 147 = .ok (.i2l, 1) := by decide +kernel
theorem dX6_digest_148 : decode cX6_digest 148 = .ok (.ladd, 1) := by decide +kernel
theorem dX6_digest_149 : decode cX6_digest 149 = .ok (.lstore_n 1, 1) := by decide +kernel
theorem dX6_digest_150 : decode cX6_digest 150 = .ok (.iinc 3 1, 3) := by decide +kernel
theorem dX6_digest_153 : decode cX6_digest 153 = .ok (.goto (-24), 3) := by decide +kernel
theorem dX6_digest_156 : decode cX6_digest 156 = .ok (.lload_n 1, 1) := by decide +kernel
theorem dX6_digest_157 : decode cX6_digest 157 = .ok (.ldc2_w 198, 3) := by decide +kernel
theorem dX6_digest_160 : decode cX6_digest 160 = .ok (.lmul, 1) := by decide +kernel
theorem dX6_digest_161 : decode cX6_digest 161 = .ok (.aload_n 0, 1) := by decide +kernel
theorem dX6_digest_162 : decode cX6_digest 162 = .ok (.invokevirtual 190, 3) := by decide +kernel
theorem dX6_digest_165 : decode cX6_digest 165 = .ok (.i2l, 1) := by decide +kernel
theorem dX6_digest_166 : decode cX6_digest 166 = .ok (.ladd, 1) := by decide +kernel
theorem dX6_digest_167 : decode cX6_digest 167 = .ok (.ldc2_w 198, 3) := by decide +kernel
theorem dX6_digest_170 : decode cX6_digest 170 = .ok (.lmul, 1) := by decide +kernel
theorem dX6_digest_171 : decode cX6_digest 171 = .ok (.aload_n 0, 1) := by decide +kernel
theorem dX6_digest_172 : decode cX6_digest 172 = .ok (.iconst 5, 1) := by decide +kernel
theorem dX6_digest_173 : decode cX6_digest 173 = .ok (.invokevirtual 193, 3) := by decide +kernel
theorem dX6_digest_176 : decode cX6_digest 176 = .ok (.i2l, 1) := by decide +kernel
theorem dX6_digest_177 : decode cX6_digest 177 = .ok (.ladd, 1) := by decide +kernel
theorem dX6_digest_178 : decode cX6_digest 178 = .ok (.lstore_n 1, 1) := by decide +kernel
theorem dX6_digest_179 : decode cX6_digest 179 = .ok (.iconst 0, 1) := by decide +kernel
theorem dX6_digest_180 : decode cX6_digest 180 = .ok (.istore_n 3, 1) := by decide +kernel
theorem dX6_digest_181 : decode cX6_digest 181 = .ok (.iload_n 3, 1) := by decide +kernel
theorem dX6_digest_182 : decode cX6_digest 182 = .ok (.bipush 10, 2) := by decide +kernel
theorem dX6_digest_184 : decode cX6_digest 184 = .ok (.if_icmp .ge 47, 3) := by decide +kernel
theorem dX6_digest_187 : decode cX6_digest 187 = .ok (.lload_n 1, 1) := by decide +kernel
theorem dX6_digest_188 : decode cX6_digest 188 = .ok (.ldc2_w 198, 3) := by decide +kernel
theorem dX6_digest_191 : decode cX6_digest 191 = .ok (.lmul, 1) := by decide +kernel
theorem dX6_digest_192 : decode cX6_digest 192 = .ok (.aload_n 0, 1) := by decide +kernel
theorem dX6_digest_193 : decode cX6_digest 193 = .ok (.iload_n 3, 1) := by decide +kernel
theorem dX6_digest_194 : decode cX6_digest 194 = .ok (.invokevirtual 101, 3) := by decide +kernel
theorem dX6_digest_197 : decode cX6_digest 197 = .ok (.i2l, 1) := by decide +kernel
theorem dX6_digest_198 : decode cX6_digest 198 = .ok (.ladd, 1) := by decide +kernel
theorem dX6_digest_199 : decode cX6_digest 199 = .ok (.ldc2_w 198, 3) := by decide +kernel
theorem dX6_digest_202 : decode cX6_digest 202 = .ok (.lmul, 1) := by decide +kernel
theorem dX6_digest_203 : decode cX6_digest 203 = .ok (.aload_n 0, 1) := by decide +kernel
theorem dX6_digest_204 : decode cX6_digest 204 = .ok (.iload_n 3, 1) := by decide +kernel
theorem dX6_digest_205 : decode cX6_digest 205 = .ok (.invokevirtual 98, 3) := by decide +kernel
theorem dX6_digest_208 : decode cX6_digest 208 = .ok (.invokestatic 127, 3) := by decide +kernel
theorem dX6_digest_211 : decode cX6_digest 211 = .ok (.i2l, 1) := by decide +kernel
theorem dX6_digest_212 : decode cX6_digest 212 = .ok (.ladd, 1) := by decide +kernel
theorem dX6_digest_213 : decode cX6_digest 213 = .ok (.ldc2_w 198, 3) := by decide +kernel
theorem dX6_digest_216 : decode cX6_digest 216 = .ok (.lmul, 1) := by decide +kernel
theorem dX6_digest_217 : decode cX6_digest 217 = .ok (.aload_n 0, 1) := by decide +kernel
theorem dX6_digest_218 : decode cX6_digest 218 = .ok (.iload_n 3, 1) := by decide +kernel
theorem dX6_digest_219 : decode cX6_digest 219 = .ok (.invokevirtual 187, 3) := by decide +kernel
theorem dX6_digest_222 : decode cX6_digest 222 = .ok (.i2l, 1) := by decide +kernel
theorem dX6_digest_223 : decode cX6_digest 223 = .ok (.ladd, 1) := by decide +kernel
theorem dX6_digest_224 : decode cX6_digest 224 = .ok (.lstore_n 1, 1) := by decide +kernel
theorem dX6_digest_225 : decode cX6_digest 225 = .ok (.iinc 3 1, 3) := by decide +kernel
theorem dX6_digest_228 : decode cX6_digest 228 = .ok (.goto (-47), 3) := by decide +kernel
theorem dX6_digest_231 : decode cX6_digest 231 = .ok (.lload_n 1, 1) := by decide +kernel
theorem dX6_digest_232 : decode cX6_digest 232 = .ok (.lreturn, 1) := by decide +kernel
theorem dJ6_numberOfTrailingZeros_0f7a4_0 : decode cJ6_numberOfTrailingZeros_0f7a4 0 = .ok (.iload_n 0, 1) := by decide +kernel
theorem dJ6_numberOfTrailingZeros_0f7a4_1 : decode cJ6_numberOfTrailingZeros_0f7a4 1 = .ok (.iconst (-1), 1) := by decide +kernel
theorem dJ6_numberOfTrailingZeros_0f7a4_2 : decode cJ6_numberOfTrailingZeros_0f7a4 2 = .ok (.ixor, 1) := by decide +kernel
theorem dJ6_numberOfTrailingZeros_0f7a4_3 : decode cJ6_numberOfTrailingZeros_0f7a4 3 = .ok (.iload_n 0, 1) := by decide +kernel
theorem dJ6_numberOfTrailingZeros_0f7a4_4 : decode cJ6_numberOfTrailingZeros_0f7a4 4 = .ok (.iconst 1, 1) := by decide +kernel
theorem dJ6_numberOfTrailingZeros_0f7a4_5 : decode cJ6_numberOfTrailingZeros_0f7a4 5 = .ok (.isub, 1) := by decide +kernel
theorem dJ6_numberOfTrailingZeros_0f7a4_6 : decode cJ6_numberOfTrailingZeros_0f7a4 6 = .ok (.iand, 1) := by decide +kernel
theorem dJ6_numberOfTrailingZeros_0f7a4_7 : decode cJ6_numberOfTrailingZeros_0f7a4 7 = .ok (.istore_n 0, 1) := by decide +kernel
theorem dJ6_numberOfTrailingZeros_0f7a4_8 : decode cJ6_numberOfTrailingZeros_0f7a4 8 = .ok (.iload_n 0, 1) := by decide +kernel
theorem dJ6_numberOfTrailingZeros_0f7a4_9 : decode cJ6_numberOfTrailingZeros_0f7a4 9 = .ok (.ifCond .gt 8, 3) := by decide +kernel
theorem dJ6_numberOfTrailingZeros_0f7a4_12 : decode cJ6_numberOfTrailingZeros_0f7a4 12 = .ok (.iload_n 0, 1) := by decide +kernel
theorem dJ6_numberOfTrailingZeros_0f7a4_13 : decode cJ6_numberOfTrailingZeros_0f7a4 13 = .ok (.bipush 32, 2) := by decide +kernel
theorem dJ6_numberOfTrailingZeros_0f7a4_15 : decode cJ6_numberOfTrailingZeros_0f7a4 15 = .ok (.iand, 1) := by decide +kernel
theorem dJ6_numberOfTrailingZeros_0f7a4_16 : decode cJ6_numberOfTrailingZeros_0f7a4 16 = .ok (.ireturn, 1) := by decide +kernel
theorem dJ6_numberOfTrailingZeros_0f7a4_17 : decode cJ6_numberOfTrailingZeros_0f7a4 17 = .ok (.iconst 1, 1) := by decide +kernel
theorem dJ6_numberOfTrailingZeros_0f7a4_18 : decode cJ6_numberOfTrailingZeros_0f7a4 18 = .ok (.istore_n 1, 1) := by decide +kernel
theorem dJ6_numberOfTrailingZeros_0f7a4_19 : decode cJ6_numberOfTrailingZeros_0f7a4 19 = .ok (.iload_n 0, 1) := by decide +kernel
theorem dJ6_numberOfTrailingZeros_0f7a4_20 : decode cJ6_numberOfTrailingZeros_0f7a4 20 = .ok (.ldc_w 264, 3) := by decide +kernel
theorem dJ6_numberOfTrailingZeros_0f7a4_23 : decode cJ6_numberOfTrailingZeros_0f7a4 23 = .ok (.if_icmp .le 11, 3) := by decide +kernel
theorem dJ6_numberOfTrailingZeros_0f7a4_26 : decode cJ6_numberOfTrailingZeros_0f7a4 26 = .ok (.iinc 1 16, 3) := by decide +kernel
theorem dJ6_numberOfTrailingZeros_0f7a4_29 : decode cJ6_numberOfTrailingZeros_0f7a4 29 = .ok (.iload_n 0, 1) := by decide +kernel
theorem dJ6_numberOfTrailingZeros_0f7a4_30 : decode cJ6_numberOfTrailingZeros_0f7a4 30 = .ok (.bipush 16, 2) := by decide +kernel
theorem dJ6_numberOfTrailingZeros_0f7a4_32 : decode cJ6_numberOfTrailingZeros_0f7a4 32 = .ok (.iushr, 1) := by decide +kernel
theorem dJ6_numberOfTrailingZeros_0f7a4_33 : decode cJ6_numberOfTrailingZeros_0f7a4 33 = .ok (.istore_n 0, 1) := by decide +kernel
theorem dJ6_numberOfTrailingZeros_0f7a4_34 : decode cJ6_numberOfTrailingZeros_0f7a4 34 = .ok (.iload_n 0, 1) := by decide +kernel
theorem dJ6_numberOfTrailingZeros_0f7a4_35 : decode cJ6_numberOfTrailingZeros_0f7a4 35 = .ok (.sipush 256, 3) := by decide +kernel
theorem dJ6_numberOfTrailingZeros_0f7a4_38 : decode cJ6_numberOfTrailingZeros_0f7a4 38 = .ok (.if_icmp .le 11, 3) := by decide +kernel
theorem dJ6_numberOfTrailingZeros_0f7a4_41 : decode cJ6_numberOfTrailingZeros_0f7a4 41 = .ok (.iinc 1 8, 3) := by decide +kernel
theorem dJ6_numberOfTrailingZeros_0f7a4_44 : decode cJ6_numberOfTrailingZeros_0f7a4 44 = .ok (.iload_n 0, 1) := by decide +kernel
theorem dJ6_numberOfTrailingZeros_0f7a4_45 : decode cJ6_numberOfTrailingZeros_0f7a4 45 = .ok (.bipush 8, 2) := by decide +kernel
theorem dJ6_numberOfTrailingZeros_0f7a4_47 : decode cJ6_numberOfTrailingZeros_0f7a4 47 = .ok (.iushr, 1) := by decide +kernel
theorem dJ6_numberOfTrailingZeros_0f7a4_48 : decode cJ6_numberOfTrailingZeros_0f7a4 48 = .ok (.istore_n 0, 1) := by decide +kernel
theorem dJ6_numberOfTrailingZeros_0f7a4_49 : decode cJ6_numberOfTrailingZeros_0f7a4 49 = .ok (.iload_n 0, 1) := by decide +kernel
theorem dJ6_numberOfTrailingZeros_0f7a4_50 : decode cJ6_numberOfTrailingZeros_0f7a4 50 = .ok (.bipush 16, 2) := by decide +kernel
theorem dJ6_numberOfTrailingZeros_0f7a4_52 : decode cJ6_numberOfTrailingZeros_0f7a4 52 = .ok (.if_icmp .le 10, 3) := by decide +kernel
theorem dJ6_numberOfTrailingZeros_0f7a4_55 : decode cJ6_numberOfTrailingZeros_0f7a4 55 = .ok (.iinc 1 4, 3) := by decide +kernel
theorem dJ6_numberOfTrailingZeros_0f7a4_58 : decode cJ6_numberOfTrailingZeros_0f7a4 58 = .ok (.iload_n 0, 1) := by decide +kernel
theorem dJ6_numberOfTrailingZeros_0f7a4_59 : decode cJ6_numberOfTrailingZeros_0f7a4 59 = .ok (.iconst 4, 1) := by decide +kernel
theorem dJ6_numberOfTrailingZeros_0f7a4_60 : decode cJ6_numberOfTrailingZeros_0f7a4 60 = .ok (.iushr, 1) := by decide +kernel
theorem dJ6_numberOfTrailingZeros_0f7a4_61 : decode cJ6_numberOfTrailingZeros_0f7a4 61 = .ok (.istore_n 0, 1) := by decide +kernel
theorem dJ6_numberOfTrailingZeros_0f7a4_62 : decode cJ6_numberOfTrailingZeros_0f7a4 62 = .ok (.iload_n 0, 1) := by decide +kernel
theorem dJ6_numberOfTrailingZeros_0f7a4_63 : decode cJ6_numberOfTrailingZeros_0f7a4 63 = .ok (.iconst 4, 1) := by decide +kernel
theorem dJ6_numberOfTrailingZeros_0f7a4_64 : decode cJ6_numberOfTrailingZeros_0f7a4 64 = .ok (.if_icmp .le 10, 3) := by decide +kernel
theorem dJ6_numberOfTrailingZeros_0f7a4_67 : decode cJ6_numberOfTrailingZeros_0f7a4 67 = .ok (.iinc 1 2, 3) := by decide +kernel
theorem dJ6_numberOfTrailingZeros_0f7a4_70 : decode cJ6_numberOfTrailingZeros_0f7a4 70 = .ok (.iload_n 0, 1) := by decide +kernel
theorem dJ6_numberOfTrailingZeros_0f7a4_71 : decode cJ6_numberOfTrailingZeros_0f7a4 71 = .ok (.iconst 2, 1) := by decide +kernel
theorem dJ6_numberOfTrailingZeros_0f7a4_72 : decode cJ6_numberOfTrailingZeros_0f7a4 72 = .ok (.iushr, 1) := by decide +kernel
theorem dJ6_numberOfTrailingZeros_0f7a4_73 : decode cJ6_numberOfTrailingZeros_0f7a4 73 = .ok (.istore_n 0, 1) := by decide +kernel
theorem dJ6_numberOfTrailingZeros_0f7a4_74 : decode cJ6_numberOfTrailingZeros_0f7a4 74 = .ok (.iload_n 1, 1) := by decide +kernel
theorem dJ6_numberOfTrailingZeros_0f7a4_75 : decode cJ6_numberOfTrailingZeros_0f7a4 75 = .ok (.iload_n 0, 1) := by decide +kernel
theorem dJ6_numberOfTrailingZeros_0f7a4_76 : decode cJ6_numberOfTrailingZeros_0f7a4 76 = .ok (.iconst 1, 1) := by decide +kernel
theorem dJ6_numberOfTrailingZeros_0f7a4_77 : decode cJ6_numberOfTrailingZeros_0f7a4 77 = .ok (.iushr, 1) := by decide +kernel
theorem dJ6_numberOfTrailingZeros_0f7a4_78 : decode cJ6_numberOfTrailingZeros_0f7a4 78 = .ok (.iadd, 1) := by decide +kernel
theorem dJ6_numberOfTrailingZeros_0f7a4_79 : decode cJ6_numberOfTrailingZeros_0f7a4 79 = .ok (.ireturn, 1) := by decide +kernel
set_option maxRecDepth 20000 in
theorem ggJ13_numberOfTrailingZeros_95d88_J6_numberOfTrailingZeros_0f7a4 : GoodIn wsJ13_numberOfTrailingZeros_95d88 wsJ6_numberOfTrailingZeros_0f7a4 := goodIn_r _ [4, 5] (by decide +kernel) (by decide +kernel)
set_option maxRecDepth 20000 in
theorem gJ13_numberOfTrailingZeros_95d88_J6_numberOfTrailingZeros_0f7a4 : GoodIn wsJ13_numberOfTrailingZeros_95d88 (va_wsS RJ13 311 yJ6_numberOfTrailingZeros_0f7a4 wsJ6_numberOfTrailingZeros_0f7a4) := goodIn_app (goodIn_of _ (by decide +kernel)) ggJ13_numberOfTrailingZeros_95d88_J6_numberOfTrailingZeros_0f7a4
theorem dJ13_numberOfTrailingZeros_95d88_0 : decode cJ13_numberOfTrailingZeros_95d88 0 = .ok (.lload_n 0, 1) := by decide +kernel
theorem dJ13_numberOfTrailingZeros_95d88_1 : decode cJ13_numberOfTrailingZeros_95d88 1 = .ok (.l2i, 1) := by decide +kernel
theorem dJ13_numberOfTrailingZeros_95d88_2 : decode cJ13_numberOfTrailingZeros_95d88 2 = .ok (.istore_n 2, 1) := by decide +kernel
theorem dJ13_numberOfTrailingZeros_95d88_3 : decode cJ13_numberOfTrailingZeros_95d88 3 = .ok (.iload_n 2, 1) := by decide +kernel
theorem dJ13_numberOfTrailingZeros_95d88_4 : decode cJ13_numberOfTrailingZeros_95d88 4 = .ok (.ifCond .ne 17, 3) := by decide +kernel
theorem dJ13_numberOfTrailingZeros_95d88_7 : decode cJ13_numberOfTrailingZeros_95d88 7 = .ok (.bipush 32, 2) := by decide +kernel
theorem dJ13_numberOfTrailingZeros_95d88_9 : decode cJ13_numberOfTrailingZeros_95d88 9 = .ok (.lload_n 0, 1) := by decide +kernel
theorem dJ13_numberOfTrailingZeros_95d88_10 : decode cJ13_numberOfTrailingZeros_95d88 10 = .ok (.bipush 32, 2) := by decide +kernel
theorem dJ13_numberOfTrailingZeros_95d88_12 : decode cJ13_numberOfTrailingZeros_95d88 12 = .ok (.lushr, 1) := by decide +kernel
theorem dJ13_numberOfTrailingZeros_95d88_13 : decode cJ13_numberOfTrailingZeros_95d88 13 = .ok (.l2i, 1) := by decide +kernel
theorem dJ13_numberOfTrailingZeros_95d88_14 : decode cJ13_numberOfTrailingZeros_95d88 14 = .ok (.invokestatic 311, 3) := by decide +kernel
theorem dJ13_numberOfTrailingZeros_95d88_17 : decode cJ13_numberOfTrailingZeros_95d88 17 = .ok (.iadd, 1) := by decide +kernel
theorem dJ13_numberOfTrailingZeros_95d88_18 : decode cJ13_numberOfTrailingZeros_95d88 18 = .ok (.goto 7, 3) := by decide +kernel
theorem dJ13_numberOfTrailingZeros_95d88_21 : decode cJ13_numberOfTrailingZeros_95d88 21 = .ok (.iload_n 2, 1) := by decide +kernel
theorem dJ13_numberOfTrailingZeros_95d88_22 : decode cJ13_numberOfTrailingZeros_95d88 22 = .ok (.invokestatic 311, 3) := by decide +kernel
theorem dJ13_numberOfTrailingZeros_95d88_25 : decode cJ13_numberOfTrailingZeros_95d88 25 = .ok (.ireturn, 1) := by decide +kernel
theorem dJ13_bitCount_95d88_0 : decode cJ13_bitCount_95d88 0 = .ok (.lload_n 0, 1) := by decide +kernel
theorem dJ13_bitCount_95d88_1 : decode cJ13_bitCount_95d88 1 = .ok (.lload_n 0, 1) := by decide +kernel
theorem dJ13_bitCount_95d88_2 : decode cJ13_bitCount_95d88 2 = .ok (.iconst 1, 1) := by decide +kernel
theorem dJ13_bitCount_95d88_3 : decode cJ13_bitCount_95d88 3 = .ok (.lushr, 1) := by decide +kernel
theorem dJ13_bitCount_95d88_4 : decode cJ13_bitCount_95d88 4 = .ok (.ldc2_w 314, 3) := by decide +kernel
theorem dJ13_bitCount_95d88_7 : decode cJ13_bitCount_95d88 7 = .ok (.land, 1) := by decide +kernel
theorem dJ13_bitCount_95d88_8 : decode cJ13_bitCount_95d88 8 = .ok (.lsub, 1) := by decide +kernel
theorem dJ13_bitCount_95d88_9 : decode cJ13_bitCount_95d88 9 = .ok (.lstore_n 0, 1) := by decide +kernel
theorem dJ13_bitCount_95d88_10 : decode cJ13_bitCount_95d88 10 = .ok (.lload_n 0, 1) := by decide +kernel
theorem dJ13_bitCount_95d88_11 : decode cJ13_bitCount_95d88 11 = .ok (.ldc2_w 316, 3) := by decide +kernel
theorem dJ13_bitCount_95d88_14 : decode cJ13_bitCount_95d88 14 = .ok (.land, 1) := by decide +kernel
theorem dJ13_bitCount_95d88_15 : decode cJ13_bitCount_95d88 15 = .ok (.lload_n 0, 1) := by decide +kernel
theorem dJ13_bitCount_95d88_16 : decode cJ13_bitCount_95d88 16 = .ok (.iconst 2, 1) := by decide +kernel
theorem dJ13_bitCount_95d88_17 : decode cJ13_bitCount_95d88 17 = .ok (.lushr, 1) := by decide +kernel
theorem dJ13_bitCount_95d88_18 : decode cJ13_bitCount_95d88 18 = .ok (.ldc2_w 316, 3) := by decide +kernel
theorem dJ13_bitCount_95d88_21 : decode cJ13_bitCount_95d88 21 = .ok (.land, 1) := by decide +kernel
theorem dJ13_bitCount_95d88_22 : decode cJ13_bitCount_95d88 22 = .ok (.ladd, 1) := by decide +kernel
theorem dJ13_bitCount_95d88_23 : decode cJ13_bitCount_95d88 23 = .ok (.lstore_n 0, 1) := by decide +kernel
theorem dJ13_bitCount_95d88_24 : decode cJ13_bitCount_95d88 24 = .ok (.lload_n 0, 1) := by decide +kernel
theorem dJ13_bitCount_95d88_25 : decode cJ13_bitCount_95d88 25 = .ok (.lload_n 0, 1) := by decide +kernel
theorem dJ13_bitCount_95d88_26 : decode cJ13_bitCount_95d88 26 = .ok (.iconst 4, 1) := by decide +kernel
theorem dJ13_bitCount_95d88_27 : decode cJ13_bitCount_95d88 27 = .ok (.lushr, 1) := by decide +kernel
theorem dJ13_bitCount_95d88_28 : decode cJ13_bitCount_95d88 28 = .ok (.ladd, 1) := by decide +kernel
theorem dJ13_bitCount_95d88_29 : decode cJ13_bitCount_95d88 29 = .ok (.ldc2_w 318, 3) := by decide +kernel
theorem dJ13_bitCount_95d88_32 : decode cJ13_bitCount_95d88 32 = .ok (.land, 1) := by decide +kernel
theorem dJ13_bitCount_95d88_33 : decode cJ13_bitCount_95d88 33 = .ok (.lstore_n 0, 1) := by decide +kernel
theorem dJ13_bitCount_95d88_34 : decode cJ13_bitCount_95d88 34 = .ok (.lload_n 0, 1) := by decide +kernel
theorem dJ13_bitCount_95d88_35 : decode cJ13_bitCount_95d88 35 = .ok (.lload_n 0, 1) := by decide +kernel
theorem dJ13_bitCount_95d88_36 : decode cJ13_bitCount_95d88 36 = .ok (.bipush 8, 2) := by decide +kernel
theorem dJ13_bitCount_95d88_38 : decode cJ13_bitCount_95d88 38 = .ok (.lushr, 1) := by decide +kernel
theorem dJ13_bitCount_95d88_39 : decode cJ13_bitCount_95d88 39 = .ok (.ladd, 1) := by decide +kernel
theorem dJ13_bitCount_95d88_40 : decode cJ13_bitCount_95d88 40 = .ok (.lstore_n 0, 1) := by decide +kernel
theorem dJ13_bitCount_95d88_41 : decode cJ13_bitCount_95d88 41 = .ok (.lload_n 0, 1) := by decide +kernel
theorem dJ13_bitCount_95d88_42 : decode cJ13_bitCount_95d88 42 = .ok (.lload_n 0, 1) := by decide +kernel
theorem dJ13_bitCount_95d88_43 : decode cJ13_bitCount_95d88 43 = .ok (.bipush 16, 2) := by decide +kernel
theorem dJ13_bitCount_95d88_45 : decode cJ13_bitCount_95d88 45 = .ok (.lushr, 1) := by decide +kernel
theorem dJ13_bitCount_95d88_46 : decode cJ13_bitCount_95d88 46 = .ok (.ladd, 1) := by decide +kernel
theorem dJ13_bitCount_95d88_47 : decode cJ13_bitCount_95d88 47 = .ok (.lstore_n 0, 1) := by decide +kernel
theorem dJ13_bitCount_95d88_48 : decode cJ13_bitCount_95d88 48 = .ok (.lload_n 0, 1) := by decide +kernel
theorem dJ13_bitCount_95d88_49 : decode cJ13_bitCount_95d88 49 = .ok (.lload_n 0, 1) := by decide +kernel
theorem dJ13_bitCount_95d88_50 : decode cJ13_bitCount_95d88 50 = .ok (.bipush 32, 2) := by decide +kernel
theorem dJ13_bitCount_95d88_52 : decode cJ13_bitCount_95d88 52 = .ok (.lushr, 1) := by decide +kernel
theorem dJ13_bitCount_95d88_53 : decode cJ13_bitCount_95d88 53 = .ok (.ladd, 1) := by decide +kernel
theorem dJ13_bitCount_95d88_54 : decode cJ13_bitCount_95d88 54 = .ok (.lstore_n 0, 1) := by decide +kernel
theorem dJ13_bitCount_95d88_55 : decode cJ13_bitCount_95d88 55 = .ok (.lload_n 0, 1) := by decide +kernel
theorem dJ13_bitCount_95d88_56 : decode cJ13_bitCount_95d88 56 = .ok (.l2i, 1) := by decide +kernel
theorem dJ13_bitCount_95d88_57 : decode cJ13_bitCount_95d88 57 = .ok (.bipush 127, 2) := by decide +kernel
theorem dJ13_bitCount_95d88_59 : decode cJ13_bitCount_95d88 59 = .ok (.iand, 1) := by decide +kernel
theorem dJ13_bitCount_95d88_60 : decode cJ13_bitCount_95d88 60 = .ok (.ireturn, 1) := by decide +kernel
theorem dJ9_max_7cf53_0 : decode cJ9_max_7cf53 0 = .ok (.iload_n 0, 1) := by decide +kernel
theorem dJ9_max_7cf53_1 : decode cJ9_max_7cf53 1 = .ok (.iload_n 1, 1) := by decide +kernel
theorem dJ9_max_7cf53_2 : decode cJ9_max_7cf53 2 = .ok (.if_icmp .lt 7, 3) := by decide +kernel
theorem dJ9_max_7cf53_5 : decode cJ9_max_7cf53 5 = .ok (.iload_n 0, 1) := by decide +kernel
theorem dJ9_max_7cf53_6 : decode cJ9_max_7cf53 6 = .ok (.goto 4, 3) := by decide +kernel
theorem dJ9_max_7cf53_9 : decode cJ9_max_7cf53 9 = .ok (.iload_n 1, 1) := by decide +kernel
theorem dJ9_max_7cf53_10 : decode cJ9_max_7cf53 10 = .ok (.ireturn, 1) := by decide +kernel
theorem dJ9_min_7cf53_0 : decode cJ9_min_7cf53 0 = .ok (.iload_n 0, 1) := by decide +kernel
theorem dJ9_min_7cf53_1 : decode cJ9_min_7cf53 1 = .ok (.iload_n 1, 1) := by decide +kernel
theorem dJ9_min_7cf53_2 : decode cJ9_min_7cf53 2 = .ok (.if_icmp .gt 7, 3) := by decide +kernel
theorem dJ9_min_7cf53_5 : decode cJ9_min_7cf53 5 = .ok (.iload_n 0, 1) := by decide +kernel
theorem dJ9_min_7cf53_6 : decode cJ9_min_7cf53 6 = .ok (.goto 4, 3) := by decide +kernel
theorem dJ9_min_7cf53_9 : decode cJ9_min_7cf53 9 = .ok (.iload_n 1, 1) := by decide +kernel
theorem dJ9_min_7cf53_10 : decode cJ9_min_7cf53 10 = .ok (.ireturn, 1) := by decide +kernel
theorem dJ7_fill_53178_0 : decode cJ7_fill_53178 0 = .ok (.iconst 0, 1) := by decide +kernel
theorem dJ7_fill_53178_1 : decode cJ7_fill_53178 1 = .ok (.istore_n 2, 1) := by decide +kernel
theorem dJ7_fill_53178_2 : decode cJ7_fill_53178 2 = .ok (.aload_n 0, 1) := by decide +kernel
theorem dJ7_fill_53178_3 : decode cJ7_fill_53178 3 = .ok (.arraylength, 1) := by decide +kernel
theorem dJ7_fill_53178_4 : decode cJ7_fill_53178 4 = .ok (.istore_n 3, 1) := by decide +kernel
theorem dJ7_fill_53178_5 : decode cJ7_fill_53178 5 = .ok (.iload_n 2, 1) := by decide +kernel
theorem dJ7_fill_53178_6 : decode cJ7_fill_53178 6 = .ok (.iload_n 3, 1) := by decide +kernel
theorem dJ7_fill_53178_7 : decode cJ7_fill_53178 7 = .ok (.if_icmp .ge 13, 3) := by decide +kernel
theorem dJ7_fill_53178_10 : decode cJ7_fill_53178 10 = .ok (.aload_n 0, 1) := by decide +kernel
theorem dJ7_fill_53178_11 : decode cJ7_fill_53178 11 = .ok (.iload_n 2, 1) := by decide +kernel
theorem dJ7_fill_53178_12 : decode cJ7_fill_53178 12 = .ok (.iload_n 1, 1) := by decide +kernel
theorem dJ7_fill_53178_13 : decode cJ7_fill_53178 13 = .ok (.iastore, 1) := by decide +kernel
theorem dJ7_fill_53178_14 : decode cJ7_fill_53178 14 = .ok (.iinc 2 1, 3) := by decide +kernel
theorem dJ7_fill_53178_17 : decode cJ7_fill_53178 17 = .ok (.goto (-12), 3) := by decide +kernel
theorem dJ7_fill_53178_20 : decode cJ7_fill_53178 20 = .ok (.return_, 1) := by decide +kernel
