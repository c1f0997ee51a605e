theorem dX5_otherwise_0 : decode cX5_otherwise 0 = .ok (.iload_n 1, 1) := by decide +kernel
theorem dX5_otherwise_1 : decode cX5_otherwise 1 = .ok (.invokestatic 44, 3) := by decide +kernel
theorem dX5_otherwise_4 : decode cX5_otherwise 4 = .ok (.iload_n 2, 1) := by decide +kernel
theorem dX5_otherwise_5 : decode cX5_otherwise 5 = .ok (.iload_n 3, 1) := by decide +kernel
theorem dX5_otherwise_6 : decode cX5_otherwise 6 = .ok (.invokestatic 51, 3) := by decide +kernel
theorem dX5_otherwise_9 : decode cX5_otherwise 9 = .ok (.aload_n 0, 1) := by decide +kernel
theorem dX5_otherwise_10 : decode cX5_otherwise 10 = .ok (.getfield 10, 3) := by decide +kernel
theorem dX5_otherwise_13 : decode cX5_otherwise 13 = .ok (.getfield 240, 3) := by decide +kernel
theorem dX5_otherwise_16 : decode cX5_otherwise 16 = .ok (.iload_n 1, 1) := by decide +kernel
theorem dX5_otherwise_17 : decode cX5_otherwise 17 = .ok (.iaload, 1) := by decide +kernel
theorem dX5_otherwise_18 : decode cX5_otherwise 18 = .ok (.istore 4, 2) := by decide +kernel
theorem dX5_otherwise_20 : decode cX5_otherwise 20 = .ok (.aload_n 0, 1) := by decide +kernel
theorem dX5_otherwise_21 : decode cX5_otherwise 21 = .ok (.getfield 10, 3) := by decide +kernel
theorem dX5_otherwise_24 : decode cX5_otherwise 24 = .ok (.getfield 243, 3) := by decide +kernel
theorem dX5_otherwise_27 : decode cX5_otherwise 27 = .ok (.iload_n 1, 1) := by decide +kernel
theorem dX5_otherwise_28 : decode cX5_otherwise 28 = .ok (.iaload, 1) := by decide +kernel
theorem dX5_otherwise_29 : decode cX5_otherwise 29 = .ok (.istore 5, 2) := by decide +kernel
theorem dX5_otherwise_31 : decode cX5_otherwise 31 = .ok (.aload_n 0, 1) := by decide +kernel
theorem dX5_otherwise_32 : decode cX5_otherwise 32 = .ok (.getfield 10, 3) := by decide +kernel
theorem dX5_otherwise_35 : decode cX5_otherwise 35 = .ok (.getfield 246, 3) := by decide +kernel
theorem dX5_otherwise_38 : decode cX5_otherwise 38 = .ok (.iload_n 1, 1) := by decide +kernel
theorem dX5_otherwise_39 : decode cX5_otherwise 39 = .ok (.iaload, 1) := by decide +kernel
theorem dX5_otherwise_40 : decode cX5_otherwise 40 = .ok (.istore 6, 2) := by decide +kernel
theorem dX5_otherwise_42 : decode cX5_otherwise 42 = .ok (.aload_n 0, 1) := by decide +kernel
theorem dX5_otherwise_43 : decode cX5_otherwise 43 = .ok (.getfield 10, 3) := by decide +kernel
theorem dX5_otherwise_46 : decode cX5_otherwise 46 = .ok (.iload_n 1, 1) := by decide +kernel
theorem dX5_otherwise_47 : decode cX5_otherwise 47 = .ok (.iload 4, 2) := by decide +kernel
theorem dX5_otherwise_49 : decode cX5_otherwise 49 = .ok (.iload_n 2, 1) := by decide +kernel
theorem dX5_otherwise_50 : decode cX5_otherwise 50 = .ok (.iload_n 3, 1) := by decide +kernel
theorem dX5_otherwise_51 : decode cX5_otherwise 51 = .ok (.invokevirtual 55, 3) := by decide +kernel
theorem dX5_otherwise_54 : decode cX5_otherwise 54 = .ok (.iconst 0, 1) := by decide +kernel
theorem dX5_otherwise_55 : decode cX5_otherwise 55 = .ok (.istore 7, 2) := by decide +kernel
theorem dX5_otherwise_57 : decode cX5_otherwise 57 = .ok (.iconst 0, 1) := by decide +kernel
theorem dX5_otherwise_58 : decode cX5_otherwise 58 = .ok (.istore 8, 2) := by decide +kernel
theorem dX5_otherwise_60 : decode cX5_otherwise 60 = .ok (.iload 8, 2) := by decide +kernel
theorem dX5_otherwise_62 : decode cX5_otherwise 62 = .ok (.aload_n 0, 1) := by decide +kernel
theorem dX5_otherwise_63 : decode cX5_otherwise 63 = .ok (.getfield 33, 3) := by decide +kernel
theorem dX5_otherwise_66 : decode cX5_otherwise 66 = .ok (.getfield 151, 3) := by decide +kernel
theorem dX5_otherwise_69 : decode cX5_otherwise 69 = .ok (.if_icmp .ge 46, 3) := by decide +kernel
theorem dX5_otherwise_72 : decode cX5_otherwise 72 = .ok (.iload 8, 2) := by decide +kernel
theorem dX5_otherwise_74 : decode cX5_otherwise 74 = .ok (.bipush 40, 2) := by decide +kernel
theorem dX5_otherwise_76 : decode cX5_otherwise 76 = .ok (.if_icmp .ge 39, 3) := by decide +kernel
theorem dX5_otherwise_79 : decode cX5_otherwise 79 = .ok (.aload_n 0, 1) := by decide +kernel
theorem dX5_otherwise_80 : decode cX5_otherwise 80 = .ok (.aload_n 0, 1) := by decide +kernel
theorem dX5_otherwise_81 : decode cX5_otherwise 81 = .ok (.getfield 33, 3) := by decide +kernel
theorem dX5_otherwise_84 : decode cX5_otherwise 84 = .ok (.getfield 145, 3) := by decide +kernel
theorem dX5_otherwise_87 : decode cX5_otherwise 87 = .ok (.iload 8, 2) := by decide +kernel
theorem dX5_otherwise_89 : decode cX5_otherwise 89 = .ok (.iaload, 1) := by decide +kernel
theorem dX5_otherwise_90 : decode cX5_otherwise 90 = .ok (.invokevirtual 77, 3) := by decide +kernel
theorem dX5_otherwise_93 : decode cX5_otherwise 93 = .ok (.aload_n 0, 1) := by decide +kernel
theorem dX5_otherwise_94 : decode cX5_otherwise 94 = .ok (.getfield 33, 3) := by decide +kernel
theorem dX5_otherwise_97 : decode cX5_otherwise 97 = .ok (.getfield 165, 3) := by decide +kernel
theorem dX5_otherwise_100 : decode cX5_otherwise 100 = .ok (.iload 8, 2) := by decide +kernel
theorem dX5_otherwise_102 : decode cX5_otherwise 102 = .ok (.iaload, 1) := by decide +kernel
theorem dX5_otherwise_103 : decode cX5_otherwise 103 = .ok (.if_icmp .eq 6, 3) := by decide +kernel
theorem dX5_otherwise_106 : decode cX5_otherwise 106 = .ok (.iinc 7 1, 3) := by decide +kernel
theorem dX5_otherwise_109 : decode cX5_otherwise 109 = .ok (.iinc 8 1, 3) := by decide +kernel
theorem dX5_otherwise_112 : decode cX5_otherwise 112 = .ok (.goto (-52), 3) := by decide +kernel
theorem dX5_otherwise_115 : decode cX5_otherwise 115 = .ok (.aload_n 0, 1) := by decide +kernel
theorem dX5_otherwise_116 : decode cX5_otherwise 116 = .ok (.getfield 10, 3) := by decide +kernel
theorem dX5_otherwise_119 : decode cX5_otherwise 119 = .ok (.iload_n 1, 1) := by decide +kernel
theorem dX5_otherwise_120 : decode cX5_otherwise 120 = .ok (.iload 4, 2) := by decide +kernel
theorem dX5_otherwise_122 : decode cX5_otherwise 122 = .ok (.iload 5, 2) := by decide +kernel
theorem dX5_otherwise_124 : decode cX5_otherwise 124 = .ok (.iload 6, 2) := by decide +kernel
theorem dX5_otherwise_126 : decode cX5_otherwise 126 = .ok (.invokevirtual 55, 3) := by decide +kernel
theorem dX5_otherwise_129 : decode cX5_otherwise 129 = .ok (.iload 7, 2) := by decide +kernel
theorem dX5_otherwise_131 : decode cX5_otherwise 131 = .ok (.ireturn, 1) := by decide +kernel
set_option maxRecDepth 20000 in
theorem ggX5_fewest_X0_allKnown : GoodIn wsX5_fewest wsX0_allKnown := goodIn_r _ [7, 8, 9, 10, 11, 32, 33, 34, 35, 36, 37] (by decide +kernel) (by decide +kernel)
set_option maxRecDepth 20000 in
theorem gX5_fewest_X0_allKnown : GoodIn wsX5_fewest (wsV RX5 201 RX0 yX0_allKnown wsX0_allKnown) := goodIn_app (goodIn_of _ (by decide +kernel)) ggX5_fewest_X0_allKnown
set_option maxRecDepth 20000 in
theorem ggX5_fewest_X0_foundBy : GoodIn wsX5_fewest wsX0_foundBy := goodIn_r _ [15, 16, 17, 10, 18, 32, 33, 34, 35, 36, 37] (by decide +kernel) (by decide +kernel)
set_option maxRecDepth 20000 in
theorem gX5_fewest_X0_foundBy : GoodIn wsX5_fewest (wsV RX5 197 RX0 yX0_foundBy wsX0_foundBy) := goodIn_app (goodIn_of _ (by decide +kernel)) ggX5_fewest_X0_foundBy
set_option maxRecDepth 20000 in
theorem ggX5_fewest_X5_fewestFrom : GoodIn wsX5_fewest wsX5_fewestFrom := goodIn_r _ [21, 22, 23, 24, 25, 26, 19, 20, 10] (by decide +kernel) (by decide +kernel)
set_option maxRecDepth 20000 in
theorem gX5_fewest_X5_fewestFrom : GoodIn wsX5_fewest (va_wsS RX5 251 yX5_fewestFrom wsX5_fewestFrom) := goodIn_app (goodIn_of _ (by decide +kernel)) ggX5_fewest_X5_fewestFrom
theorem dX5_fewest_0 : decode cX5_fewest 0 = .ok (.aload_n 0, 1) := by decide +kernel
theorem dX5_fewest_1 : decode cX5_fewest 1 = .ok (.getfield 33, 3) := by decide +kernel
theorem dX5_fewest_4 : decode cX5_fewest 4 = .ok (.getfield 151, 3) := by decide +kernel
theorem dX5_fewest_7 : decode cX5_fewest 7 = .ok (.bipush 12, 2) := by decide +kernel
theorem dX5_fewest_9 : decode cX5_fewest 9 = .ok (.if_icmp .le 5, 3) := by decide +kernel
theorem dX5_fewest_12 : decode cX5_fewest 12 = .ok (.iconst (-1), 1) := by decide +kernel
theorem dX5_fewest_13 : decode cX5_fewest 13 = .ok (.ireturn, 1) := by decide +kernel
theorem dX5_fewest_14 : decode cX5_fewest 14 = .ok (.aload_n 0, 1) := by decide +kernel
theorem dX5_fewest_15 : decode cX5_fewest 15 = .ok (.getfield 33, 3) := by decide +kernel
theorem dX5_fewest_18 : decode cX5_fewest 18 = .ok (.aload_n 0, 1) := by decide +kernel
theorem dX5_fewest_19 : decode cX5_fewest 19 = .ok (.getfield 33, 3) := by decide +kernel
theorem dX5_fewest_22 : decode cX5_fewest 22 = .ok (.invokevirtual 201, 3) := by decide +kernel
theorem dX5_fewest_25 : decode cX5_fewest 25 = .ok (.invokevirtual 197, 3) := by decide +kernel
theorem dX5_fewest_28 : decode cX5_fewest 28 = .ok (.ldc2_w 249, 3) := by decide +kernel
theorem dX5_fewest_31 : decode cX5_fewest 31 = .ok (.land, 1) := by decide +kernel
theorem dX5_fewest_32 : decode cX5_fewest 32 = .ok (.lstore_n 1, 1) := by decide +kernel
theorem dX5_fewest_33 : decode cX5_fewest 33 = .ok (.aload_n 0, 1) := by decide +kernel
theorem dX5_fewest_34 : decode cX5_fewest 34 = .ok (.getfield 33, 3) := by decide +kernel
theorem dX5_fewest_37 : decode cX5_fewest 37 = .ok (.getfield 168, 3) := by decide +kernel
theorem dX5_fewest_40 : decode cX5_fewest 40 = .ok (.aload_n 0, 1) := by decide +kernel
theorem dX5_fewest_41 : decode cX5_fewest 41 = .ok (.getfield 33, 3) := by decide +kernel
theorem dX5_fewest_44 : decode cX5_fewest 44 = .ok (.getfield 151, 3) := by decide +kernel
theorem dX5_fewest_47 : decode cX5_fewest 47 = .ok (.iconst 0, 1) := by decide +kernel
theorem dX5_fewest_48 : decode cX5_fewest 48 = .ok (.lload_n 1, 1) := by decide +kernel
theorem dX5_fewest_49 : decode cX5_fewest 49 = .ok (.iconst 0, 1) := by decide +kernel
theorem dX5_fewest_50 : decode cX5_fewest 50 = .ok (.aload_n 0, 1) := by decide +kernel
theorem dX5_fewest_51 : decode cX5_fewest 51 = .ok (.getfield 33, 3) := by decide +kernel
theorem dX5_fewest_54 : decode cX5_fewest 54 = .ok (.getfield 151, 3) := by decide +kernel
theorem dX5_fewest_57 : decode cX5_fewest 57 = .ok (.invokestatic 251, 3) := by decide +kernel
theorem dX5_fewest_60 : decode cX5_fewest 60 = .ok (.ireturn, 1) := by decide +kernel
set_option maxRecDepth 20000 in
theorem ggX5_smallest_X5_checkEdge : GoodIn wsX5_smallest wsX5_checkEdge := goodIn_ca (goodIn_r _ [6, 7, 8] (by decide +kernel) (by decide +kernel)) (goodIn_sub (fun _ h => List.mem_cons_of_mem _ (List.mem_append_left _ (List.mem_append_right _ h))) (by decide +kernel))
set_option maxRecDepth 20000 in
theorem gX5_smallest_X5_checkEdge : GoodIn wsX5_smallest (va_wsS RX5 178 yX5_checkEdge wsX5_checkEdge) := goodIn_app (goodIn_of _ (by decide +kernel)) ggX5_smallest_X5_checkEdge
set_option maxRecDepth 20000 in
theorem ggX5_smallest_X5_checkCase : GoodIn wsX5_smallest wsX5_checkCase := goodIn_ca (goodIn_r _ [11, 12, 13] (by decide +kernel) (by decide +kernel)) (goodIn_sub (fun _ h => List.mem_cons_of_mem _ (List.mem_append_right _ h)) (by decide +kernel))
set_option maxRecDepth 20000 in
theorem gX5_smallest_X5_checkCase : GoodIn wsX5_smallest (va_wsS RX5 74 yX5_checkCase wsX5_checkCase) := goodIn_app (goodIn_of _ (by decide +kernel)) ggX5_smallest_X5_checkCase
set_option maxRecDepth 20000 in
theorem ggX5_smallest_X2_follow : GoodIn wsX5_smallest wsX2_follow := goodIn_r _ [18, 19, 20, 21, 22, 23, 24, 25, 26, 27, 28, 29, 5, 30, 31, 32, 33, 17, 34, 35, 36, 37, 38, 39, 40, 41, 42, 43, 44, 45, 46, 47, 48, 49, 50, 51, 52, 65, 66, 67, 68, 69, 61, 62, 63, 64] (by decide +kernel) (by decide +kernel)
set_option maxRecDepth 20000 in
theorem gX5_smallest_X2_follow : GoodIn wsX5_smallest (wsV RX5 81 RX2 yX2_follow wsX2_follow) := goodIn_app (goodIn_of _ (by decide +kernel)) ggX5_smallest_X2_follow
set_option maxRecDepth 20000 in
theorem ggX5_smallest_X5_contains : GoodIn wsX5_smallest wsX5_contains := goodIn_r _ [55] (by decide +kernel) (by decide +kernel)
set_option maxRecDepth 20000 in
theorem gX5_smallest_X5_contains : GoodIn wsX5_smallest (va_wsS RX5 255 yX5_contains wsX5_contains) := goodIn_app (goodIn_of _ (by decide +kernel)) ggX5_smallest_X5_contains
theorem dX5_smallest_0 : decode cX5_smallest 0 = .ok (.iload_n 1, 1) := by decide +kernel
theorem dX5_smallest_1 : decode cX5_smallest 1 = .ok (.invokestatic 178, 3) := by decide +kernel
theorem dX5_smallest_4 : decode cX5_smallest 4 = .ok (.iload_n 2, 1) := by decide +kernel
theorem dX5_smallest_5 : decode cX5_smallest 5 = .ok (.invokestatic 74, 3) := by decide +kernel
theorem dX5_smallest_8 : decode cX5_smallest 8 = .ok (.iload_n 2, 1) := by decide +kernel
theorem dX5_smallest_9 : decode cX5_smallest 9 = .ok (.iload_n 2, 1) := by decide +kernel
theorem dX5_smallest_10 : decode cX5_smallest 10 = .ok (.bipush 100, 2) := by decide +kernel
theorem dX5_smallest_12 : decode cX5_smallest 12 = .ok (.irem, 1) := by decide +kernel
theorem dX5_smallest_13 : decode cX5_smallest 13 = .ok (.isub, 1) := by decide +kernel
theorem dX5_smallest_14 : decode cX5_smallest 14 = .ok (.istore_n 3, 1) := by decide +kernel
theorem dX5_smallest_15 : decode cX5_smallest 15 = .ok (.iload_n 3, 1) := by decide +kernel
theorem dX5_smallest_16 : decode cX5_smallest 16 = .ok (.istore 4, 2) := by decide +kernel
theorem dX5_smallest_18 : decode cX5_smallest 18 = .ok (.iload 4, 2) := by decide +kernel
theorem dX5_smallest_20 : decode cX5_smallest 20 = .ok (.iload_n 3, 1) := by decide +kernel
theorem dX5_smallest_21 : decode cX5_smallest 21 = .ok (.bipush 100, 2) := by decide +kernel
theorem dX5_smallest_23 : decode cX5_smallest 23 = .ok (.iadd, 1) := by decide +kernel
theorem dX5_smallest_24 : decode cX5_smallest 24 = .ok (.if_icmp .ge 39, 3) := by decide +kernel
theorem dX5_smallest_27 : decode cX5_smallest 27 = .ok (.aload_n 0, 1) := by decide +kernel
theorem dX5_smallest_28 : decode cX5_smallest 28 = .ok (.getfield 10, 3) := by decide +kernel
theorem dX5_smallest_31 : decode cX5_smallest 31 = .ok (.iload 4, 2) := by decide +kernel
theorem dX5_smallest_33 : decode cX5_smallest 33 = .ok (.aload_n 0, 1) := by decide +kernel
theorem dX5_smallest_34 : decode cX5_smallest 34 = .ok (.getfield 19, 3) := by decide +kernel
theorem dX5_smallest_37 : decode cX5_smallest 37 = .ok (.invokevirtual 81, 3) := by decide +kernel
theorem dX5_smallest_40 : decode cX5_smallest 40 = .ok (.aload_n 0, 1) := by decide +kernel
theorem dX5_smallest_41 : decode cX5_smallest 41 = .ok (.getfield 19, 3) := by decide +kernel
theorem dX5_smallest_44 : decode cX5_smallest 44 = .ok (.getfield 100, 3) := by decide +kernel
theorem dX5_smallest_47 : decode cX5_smallest 47 = .ok (.iload_n 1, 1) := by decide +kernel
theorem dX5_smallest_48 : decode cX5_smallest 48 = .ok (.invokestatic 255, 3) := by decide +kernel
theorem dX5_smallest_51 : decode cX5_smallest 51 = .ok (.ifCond .eq 6, 3) := by decide +kernel
theorem dX5_smallest_54 : decode cX5_smallest 54 = .ok (.iload 4, 2) := by decide +kernel
theorem dX5_smallest_56 : decode cX5_smallest 56 = .ok (.ireturn, 1) := by decide +kernel
theorem dX5_smallest_57 : decode cX5_smallest 57 = .ok (.iinc 4 1, 3) := by decide +kernel
theorem dX5_smallest_60 : decode cX5_smallest 60 = .ok (.goto (-42), 3) := by decide +kernel
theorem dX5_smallest_63 : decode cX5_smallest 63 = .ok (.iconst (-1), 1) := by decide +kernel
theorem dX5_smallest_64 : decode cX5_smallest 64 = .ok (.ireturn, 1) := by decide +kernel
set_option maxRecDepth 20000 in
theorem ggX5_ahead_X1_nextCase : GoodIn wsX5_ahead wsX1_nextCase := goodIn_r _ [8, 9, 10, 11, 7, 12, 13, 14, 15, 16, 17, 18, 19, 20, 21, 22, 23, 24, 85, 86, 87, 88] (by decide +kernel) (by decide +kernel)
set_option maxRecDepth 20000 in
theorem gX5_ahead_X1_nextCase : GoodIn wsX5_ahead (wsV RX5 128 RX1 yX1_nextCase wsX1_nextCase) := goodIn_app (goodIn_of _ (by decide +kernel)) ggX5_ahead_X1_nextCase
set_option maxRecDepth 20000 in
theorem ggX5_ahead_X5_resultOf : GoodIn wsX5_ahead wsX5_resultOf := goodIn_r _ [29, 30, 31, 32, 33, 34, 35, 36, 37, 38, 39, 40, 41, 42, 43, 44, 45, 46, 47, 28, 48, 49, 50, 51, 52, 53, 54, 55, 56, 57, 58, 59, 60, 61, 62, 63, 64, 65, 66, 67, 68, 69, 70, 80, 81, 82, 83, 84, 89, 90, 91, 92, 93, 94, 95, 96, 97] (by decide +kernel) (by decide +kernel)
set_option maxRecDepth 20000 in
theorem gX5_ahead_X5_resultOf : GoodIn wsX5_ahead (wsV RX5 77 RX5 yX5_resultOf wsX5_resultOf) := goodIn_app (goodIn_of _ (by decide +kernel)) ggX5_ahead_X5_resultOf
set_option maxRecDepth 20000 in
theorem ggX5_ahead_X5_outcomeOf : GoodIn wsX5_ahead wsX5_outcomeOf := goodIn_r _ [70] (by decide +kernel) (by decide +kernel)
set_option maxRecDepth 20000 in
theorem gX5_ahead_X5_outcomeOf : GoodIn wsX5_ahead (va_wsS RX5 261 yX5_outcomeOf wsX5_outcomeOf) := goodIn_app (goodIn_of _ (by decide +kernel)) ggX5_ahead_X5_outcomeOf
set_option maxRecDepth 20000 in
theorem ggX5_ahead_X5_bit : GoodIn wsX5_ahead wsX5_bit := goodIn_r _ [64] (by decide +kernel) (by decide +kernel)
set_option maxRecDepth 20000 in
theorem gX5_ahead_X5_bit : GoodIn wsX5_ahead (va_wsS RX5 264 yX5_bit wsX5_bit) := goodIn_app (goodIn_of _ (by decide +kernel)) ggX5_ahead_X5_bit
set_option maxRecDepth 20000 in
theorem ggX5_ahead_J13_bitCount_95d88 : GoodIn wsX5_ahead wsJ13_bitCount_95d88 := goodIn_r _ [76, 77, 78, 79] (by decide +kernel) (by decide +kernel)
set_option maxRecDepth 20000 in
theorem gX5_ahead_J13_bitCount_95d88 : GoodIn wsX5_ahead (va_wsS RX5 187 yJ13_bitCount_95d88 wsJ13_bitCount_95d88) := goodIn_app (goodIn_of _ (by decide +kernel)) ggX5_ahead_J13_bitCount_95d88
theorem dX5_ahead_0 : decode cX5_ahead 0 = .ok (.iload_n 1, 1) := by decide +kernel
theorem dX5_ahead_1 : decode cX5_ahead 1 = .ok (.iconst 1, 1) := by decide +kernel
theorem dX5_ahead_2 : decode cX5_ahead 2 = .ok (.if_icmp .lt 9, 3) := by decide +kernel
theorem dX5_ahead_5 : decode cX5_ahead 5 = .ok (.iload_n 1, 1) := by decide +kernel
theorem dX5_ahead_6 : decode cX5_ahead 6 = .ok (.bipush 50, 2) := by decide +kernel
theorem dX5_ahead_8 : decode cX5_ahead 8 = .ok (.if_icmp .le 14, 3) := by decide +kernel
theorem dX5_ahead_11 : decode cX5_ahead 11 = .ok (.new 117, 3) := by decide +kernel
theorem dX5_ahead_14 : decode cX5_ahead 14 = .ok (.dup, 1) := by decide +kernel
theorem dX5_ahead_15 : decode cX5_ahead 15 = .ok (.ldc_w 259, 3) := by decide +kernel
theorem dX5_ahead_18 : decode cX5_ahead 18 = .ok (.invokespecial 121, 3) := by decide +kernel
theorem dX5_ahead_21 : decode cX5_ahead 21 = .ok (.athrow, 1) := by decide +kernel
theorem dX5_ahead_22 : decode cX5_ahead 22 = .ok (.aload_n 0, 1) := by decide +kernel
theorem dX5_ahead_23 : decode cX5_ahead 23 = .ok (.getfield 26, 3) := by decide +kernel
theorem dX5_ahead_26 : decode cX5_ahead 26 = .ok (.getfield 122, 3) := by decide +kernel
theorem dX5_ahead_29 : decode cX5_ahead 29 = .ok (.istore_n 2, 1) := by decide +kernel
theorem dX5_ahead_30 : decode cX5_ahead 30 = .ok (.lconst 0, 1) := by decide +kernel
theorem dX5_ahead_31 : decode cX5_ahead 31 = .ok (.lstore_n 3, 1) := by decide +kernel
theorem dX5_ahead_32 : decode cX5_ahead 32 = .ok (.iconst 0, 1) := by decide +kernel
theorem dX5_ahead_33 : decode cX5_ahead 33 = .ok (.istore 5, 2) := by decide +kernel
theorem dX5_ahead_35 : decode cX5_ahead 35 = .ok (.iload 5, 2) := by decide +kernel
theorem dX5_ahead_37 : decode cX5_ahead 37 = .ok (.iload_n 1, 1) := by decide +kernel
theorem dX5_ahead_38 : decode cX5_ahead 38 = .ok (.if_icmp .ge 29, 3) := by decide +kernel
theorem dX5_ahead_41 : decode cX5_ahead 41 = .ok (.lload_n 3, 1) := by decide +kernel
theorem dX5_ahead_42 : decode cX5_ahead 42 = .ok (.aload_n 0, 1) := by decide +kernel
theorem dX5_ahead_43 : decode cX5_ahead 43 = .ok (.aload_n 0, 1) := by decide +kernel
theorem dX5_ahead_44 : decode cX5_ahead 44 = .ok (.getfield 26, 3) := by decide +kernel
theorem dX5_ahead_47 : decode cX5_ahead 47 = .ok (.invokevirtual 128, 3) := by decide +kernel
theorem dX5_ahead_50 : decode cX5_ahead 50 = .ok (.invokevirtual 77, 3) := by decide +kernel
theorem dX5_ahead_53 : decode cX5_ahead 53 = .ok (.invokestatic 261, 3) := by decide +kernel
theorem dX5_ahead_56 : decode cX5_ahead 56 = .ok (.invokestatic 264, 3) := by decide +kernel
theorem dX5_ahead_59 : decode cX5_ahead 59 = .ok (.lor, 1) := by decide +kernel
theorem dX5_ahead_60 : decode cX5_ahead 60 = .ok (.lstore_n 3, 1) := by decide +kernel
theorem dX5_ahead_61 : decode cX5_ahead 61 = .ok (.iinc 5 1, 3) := by decide +kernel
theorem dX5_ahead_64 : decode cX5_ahead 64 = .ok (.goto (-29), 3) := by decide +kernel
theorem dX5_ahead_67 : decode cX5_ahead 67 = .ok (.aload_n 0, 1) := by decide +kernel
theorem dX5_ahead_68 : decode cX5_ahead 68 = .ok (.getfield 26, 3) := by decide +kernel
theorem dX5_ahead_71 : decode cX5_ahead 71 = .ok (.iload_n 2, 1) := by decide +kernel
theorem dX5_ahead_72 : decode cX5_ahead 72 = .ok (.putfield 122, 3) := by decide +kernel
theorem dX5_ahead_75 : decode cX5_ahead 75 = .ok (.lload_n 3, 1) := by decide +kernel
theorem dX5_ahead_76 : decode cX5_ahead 76 = .ok (.invokestatic 187, 3) := by decide +kernel
theorem dX5_ahead_79 : decode cX5_ahead 79 = .ok (.ireturn, 1) := by decide +kernel
set_option maxRecDepth 20000 in
theorem ggX5_digest_X5_many : GoodIn wsX5_digest wsX5_many := goodIn_ca (goodIn_r _ [8, 9, 10, 11, 3, 12, 13, 14, 15, 16, 17, 18, 19, 20, 21, 22, 23, 24, 25, 26, 27, 7, 28, 29, 30, 31, 32, 33, 34, 35, 36, 37, 38, 39, 40, 41, 42, 43, 44, 45, 46, 47, 48, 236, 237, 238, 239, 240, 245, 246, 247, 248, 249, 250, 241, 242, 243, 244, 251, 252, 253, 254, 255, 256, 257, 258, 259] (by decide +kernel) (by decide +kernel)) (goodIn_sub (fun _ h => List.mem_cons_of_mem _ (List.mem_append_left _ (List.mem_append_right _ h))) (by decide +kernel))
set_option maxRecDepth 20000 in
theorem gX5_digest_X5_many : GoodIn wsX5_digest (wsV RX5 271 RX5 yX5_many wsX5_many) := goodIn_app (goodIn_of _ (by decide +kernel)) ggX5_digest_X5_many
set_option maxRecDepth 20000 in
theorem ggX5_digest_X5_digestOfKnown : GoodIn wsX5_digest wsX5_digestOfKnown := goodIn_ca (goodIn_ca (goodIn_r _ [52, 11, 2, 53, 54, 55, 7, 56, 57, 58, 9, 10, 59, 60, 61, 24, 62, 63, 27, 28, 64, 65, 66, 67, 68, 69, 70, 71, 72, 73, 74, 75, 76, 77, 26, 78, 38, 39, 79, 22, 23, 25, 30, 31, 32, 14, 15, 16, 17, 18, 19, 20, 29, 80, 236, 237, 238, 239, 240, 245, 246, 247, 248, 249, 250] (by decide +kernel) (by decide +kernel)) (goodIn_sub (fun _ h => List.mem_cons_of_mem _ (List.mem_append_right _ h)) (by decide +kernel))) (goodIn_sub (fun _ h => List.mem_cons_of_mem _ (List.mem_append_left _ (List.mem_append_right _ h))) (by decide +kernel))
set_option maxRecDepth 20000 in
theorem gX5_digest_X5_digestOfKnown : GoodIn wsX5_digest (wsV RX5 274 RX5 yX5_digestOfKnown wsX5_digestOfKnown) := goodIn_app (goodIn_of _ (by decide +kernel)) ggX5_digest_X5_digestOfKnown
set_option maxRecDepth 20000 in
theorem ggX5_digest_X5_digestOfEdges : GoodIn wsX5_digest wsX5_digestOfEdges := goodIn_ca (goodIn_ca (goodIn_r _ [84, 2, 85, 86, 87, 7, 88, 9, 10, 11, 89, 90, 91, 57, 58, 92, 93, 94, 24, 95, 37, 26, 27, 28, 38, 39, 14, 15, 16, 17, 18, 19, 20, 96, 97, 98, 99, 100, 101, 102, 103, 236, 237, 238, 239, 240, 245, 246, 247, 248, 249, 250] (by decide +kernel) (by decide +kernel)) (goodIn_sub (fun _ h => List.mem_cons_of_mem _ (List.mem_append_left _ (List.mem_append_right _ h))) (by decide +kernel))) (goodIn_sub (fun _ h => List.mem_cons_of_mem _ (List.mem_append_right _ h)) (by decide +kernel))
set_option maxRecDepth 20000 in
theorem gX5_digest_X5_digestOfEdges : GoodIn wsX5_digest (wsV RX5 277 RX5 yX5_digestOfEdges wsX5_digestOfEdges) := goodIn_app (goodIn_of _ (by decide +kernel)) ggX5_digest_X5_digestOfEdges
set_option maxRecDepth 20000 in
theorem ggX5_digest_X5_brokenBy : GoodIn wsX5_digest wsX5_brokenBy := goodIn_ca (goodIn_r _ [107, 11, 3, 108, 109, 110, 7, 111, 57, 58, 112, 113, 114, 115, 116, 117, 118, 119, 120, 71, 121, 122, 123, 124, 125, 126, 127, 128, 129, 130, 131, 132, 133, 134, 13, 135, 136, 137, 138, 43, 139, 140, 45, 141, 142, 143, 144, 145, 146, 147, 148, 46, 47, 149, 150, 151, 152, 153, 154, 155, 156, 157, 158, 159, 160, 38, 39, 161, 162, 163, 164, 165, 166, 236, 237, 238, 239, 240, 245, 246, 247, 248, 249, 250, 241, 242, 243, 244, 260, 261, 262, 263, 255, 256, 257, 258, 259] (by decide +kernel) (by decide +kernel)) (goodIn_sub (fun _ h => List.mem_cons_of_mem _ (List.mem_append_right _ h)) (by decide +kernel))
set_option maxRecDepth 20000 in
theorem gX5_digest_X5_brokenBy : GoodIn wsX5_digest (wsV RX5 280 RX5 yX5_brokenBy wsX5_brokenBy) := goodIn_app (goodIn_of _ (by decide +kernel)) ggX5_digest_X5_brokenBy
set_option maxRecDepth 20000 in
theorem ggX5_digest_X5_fewest : GoodIn wsX5_digest wsX5_fewest := goodIn_r _ [170, 11, 32, 33, 34, 35, 24, 36, 37, 38, 7, 39, 21, 22, 23, 25, 26, 27, 28, 171, 172, 173, 174, 120, 71, 121, 175, 236, 237, 238, 239, 240, 245, 246, 247, 248, 249, 250] (by decide +kernel) (by decide +kernel)
set_option maxRecDepth 20000 in
theorem gX5_digest_X5_fewest : GoodIn wsX5_digest (wsV RX5 283 RX5 yX5_fewest wsX5_fewest) := goodIn_app (goodIn_of _ (by decide +kernel)) ggX5_digest_X5_fewest
set_option maxRecDepth 20000 in
theorem ggX5_digest_X5_ahead : GoodIn wsX5_digest wsX5_ahead := goodIn_ca (goodIn_r _ [179, 9, 10, 12, 180, 181, 182, 183, 184, 185, 186, 187, 188, 189, 190, 191, 192, 193, 194, 195, 196, 197, 198, 199, 200, 131, 132, 133, 7, 134, 13, 135, 136, 137, 138, 43, 139, 140, 45, 141, 142, 143, 144, 145, 146, 147, 148, 46, 47, 149, 150, 151, 152, 153, 154, 155, 123, 124, 156, 157, 158, 159, 160, 38, 39, 161, 162, 163, 164, 165, 166, 201, 202, 14, 15, 16, 17, 18, 19, 20, 236, 237, 238, 239, 240, 251, 252, 253, 254, 260, 261, 262, 263, 255, 256, 257, 258, 259] (by decide +kernel) (by decide +kernel)) (goodIn_sub (fun _ h => List.mem_cons_of_mem _ (List.mem_append_left _ (List.mem_append_right _ h))) (by decide +kernel))
set_option maxRecDepth 20000 in
theorem gX5_digest_X5_ahead : GoodIn wsX5_digest (wsV RX5 286 RX5 yX5_ahead wsX5_ahead) := goodIn_app (goodIn_of _ (by decide +kernel)) ggX5_digest_X5_ahead
set_option maxRecDepth 20000 in
theorem ggX5_digest_X5_run : GoodIn wsX5_digest wsX5_run := goodIn_ca (goodIn_r _ [206, 207, 208, 7, 209, 9, 10, 131, 132, 133, 134, 13, 135, 136, 137, 138, 43, 139, 140, 45, 141, 142, 143, 144, 145, 146, 147, 148, 46, 47, 149, 150, 151, 152, 153, 154, 155, 123, 124, 156, 157, 158, 159, 160, 38, 39, 161, 162, 163, 164, 165, 166, 236, 237, 238, 239, 240, 260, 261, 262, 263, 255, 256, 257, 258, 259] (by decide +kernel) (by decide +kernel)) (goodIn_sub (fun _ h => List.mem_cons_of_mem _ (List.mem_append_left _ (List.mem_append_right _ h))) (by decide +kernel))
set_option maxRecDepth 20000 in
theorem gX5_digest_X5_run : GoodIn wsX5_digest (wsV RX5 289 RX5 yX5_run wsX5_run) := goodIn_app (goodIn_of _ (by decide +kernel)) ggX5_digest_X5_run
set_option maxRecDepth 20000 in
theorem ggX5_digest_X5_covers : GoodIn wsX5_digest wsX5_covers := goodIn_ca (goodIn_r _ [213, 13, 135, 207, 208, 7, 209, 9, 10, 136, 137, 138, 43, 139, 140, 45, 141, 142, 143, 144, 145, 146, 147, 148, 46, 47, 149, 150, 151, 152, 153, 154, 155, 123, 124, 156, 157, 158, 159, 160, 38, 39, 161, 162, 163, 164, 165, 166, 29, 30, 31, 32, 14, 15, 16, 17, 18, 19, 20, 236, 237, 238, 239, 240, 260, 261, 262, 263, 255, 256, 257, 258, 259] (by decide +kernel) (by decide +kernel)) (goodIn_sub (fun _ h => List.mem_cons_of_mem _ (List.mem_append_left _ (List.mem_append_right _ h))) (by decide +kernel))
set_option maxRecDepth 20000 in
theorem gX5_digest_X5_covers : GoodIn wsX5_digest (wsV RX5 292 RX5 yX5_covers wsX5_covers) := goodIn_app (goodIn_of _ (by decide +kernel)) ggX5_digest_X5_covers
set_option maxRecDepth 20000 in
theorem ggX5_digest_X5_wouldDrop : GoodIn wsX5_digest wsX5_wouldDrop := goodIn_ca (goodIn_r _ [217, 13, 135, 11, 175, 207, 208, 7, 209, 9, 10, 136, 137, 138, 43, 139, 140, 45, 141, 142, 143, 144, 145, 146, 147, 148, 46, 47, 149, 150, 151, 152, 153, 154, 155, 123, 124, 156, 157, 158, 159, 160, 38, 39, 161, 162, 163, 164, 165, 166, 218, 219, 220, 24, 221, 37, 63, 222, 223, 224, 225, 226, 227, 228, 229, 230, 231, 26, 74, 75, 76, 77, 78, 79, 22, 23, 25, 27, 28, 232, 233, 234, 235, 14, 15, 16, 17, 18, 19, 20, 236, 237, 238, 239, 240, 245, 246, 247, 248, 249, 250, 255, 256, 257, 258, 259, 260, 261, 262, 263] (by decide +kernel) (by decide +kernel)) (goodIn_sub (fun _ h => List.mem_cons_of_mem _ (List.mem_append_left _ (List.mem_append_right _ h))) (by decide +kernel))
set_option maxRecDepth 20000 in
theorem gX5_digest_X5_wouldDrop : GoodIn wsX5_digest (wsV RX5 295 RX5 yX5_wouldDrop wsX5_wouldDrop) := goodIn_app (goodIn_of _ (by decide +kernel)) ggX5_digest_X5_wouldDrop
theorem dX5_digest_0 : decode cX5_digest 0 = .ok (.ldc2_w 267, 3) := by decide +kernel
theorem dX5_digest_3 : decode cX5_digest 3 = .ok (.lstore_n 1, 1) := by decide +kernel
theorem dX5_digest_4 : decode cX5_digest 4 = .ok (.iconst 0, 1) := by decide +kernel
theorem dX5_digest_5 : decode cX5_digest 5 = .ok (.istore_n 3, 1) := by decide +kernel
theorem dX5_digest_6 : decode cX5_digest 6 = .ok (.iload_n 3, 1) := by decide +kernel
theorem dX5_digest_7 : decode cX5_digest 7 = .ok (.bipush 7, 2) := by decide +kernel
theorem dX5_digest_9 : decode cX5_digest 9 = .ok (.if_icmp .gt 22, 3) := by decide +kernel
theorem dX5_digest_12 : decode cX5_digest 12 = .ok (.lload_n 1, 1) := by decide +kernel
theorem dX5_digest_13 : decode cX5_digest 13 = .ok (.ldc2_w 269, 3) := by decide +kernel
theorem dX5_digest_16 : decode cX5_digest 16 = .ok (.lmul, 1) := by decide +kernel
theorem dX5_digest_17 : decode cX5_digest 17 = .ok (.aload_n 0, 1) := by decide +kernel
theorem dX5_digest_18 : decode cX5_digest 18 = .ok (.iload_n 3, 1) := by decide +kernel
theorem dX5_digest_19 : decode cX5_digest 19 = .ok (.invokevirtual 271, 3) := by decide +kernel
theorem dX5_digest_22 : decode cX5_digest 22 = .ok (.i2l, 1) := by decide +kernel
theorem dX5_digest_23 : decode cX5_digest 23 = .ok (.ladd, 1) := by decide +kernel
theorem dX5_digest_24 : decode cX5_digest 24 = .ok (.lstore_n 1, 1) := by decide +kernel
theorem dX5_digest_25 : decode cX5_digest 25 = .ok (.iinc 3 1, 3) := by decide +kernel
theorem dX5_digest_28 : decode cX5_digest 28 = .ok (.goto (-22), 3) := by decide +kernel
theorem dX5_digest_31 : decode cX5_digest 31 = .ok (.aload_n 0, 1) := by decide +kernel
theorem dX5_digest_32 : decode cX5_digest 32 = .ok (.lload_n 1, 1) := by decide +kernel
theorem dX5_digest_33 : decode cX5_digest 33 = .ok (.invokevirtual 274, 3) := by decide +kernel
theorem dX5_digest_36 : decode cX5_digest 36 = .ok (.lstore_n 1, 1) := by decide +kernel
theorem dX5_digest_37 : decode cX5_digest 37 = .ok (.aload_n 0, 1) := by decide +kernel
theorem dX5_digest_38 : decode cX5_digest 38 = .ok (.lload_n 1, 1) := by decide +kernel
theorem dX5_digest_39 : decode cX5_digest 39 = .ok (.invokevirtual 277, 3) := by decide +kernel
theorem dX5_digest_42 : decode cX5_digest 42 = .ok (.lstore_n 1, 1) := by decide +kernel
theorem dX5_digest_43 : decode cX5_digest 43 = .ok (.iconst 0, 1) := by decide +kernel
theorem dX5_digest_44 : decode cX5_digest 44 = .ok (.istore_n 3, 1) := by decide +kernel
theorem dX5_digest_45 : decode cX5_digest 45 = .ok (.iload_n 3, 1) := by decide +kernel
theorem dX5_digest_46 : decode cX5_digest 46 = .ok (.aload_n 0, 1) := by decide +kernel
theorem dX5_digest_47 : decode cX5_digest 47 = .ok (.getfield 40, 3) := by decide +kernel
theorem dX5_digest_50 : decode cX5_digest 50 = .ok (.getfield 205, 3) := by decide +kernel
theorem dX5_digest_53 : decode cX5_digest 53 = .ok (.if_icmp .ge 28, 3) := by decide +kernel
theorem dX5_digest_56 : decode cX5_digest 56 = .ok (.iload_n 3, 1) := by decide +kernel
theorem dX5_digest_57 : decode cX5_digest 57 = .ok (.bipush 6, 2) := by decide +kernel
theorem dX5_digest_59 : decode cX5_digest 59 = .ok (.if_icmp .ge 22, 3) := by decide +kernel
theorem dX5_digest_62 : decode cX5_digest 62 = .ok (.lload_n 1, 1) := by decide +kernel
theorem dX5_digest_63 : decode cX5_digest 63 = .ok (.ldc2_w 269, 3) := by decide +kernel
theorem dX5_digest_66 : decode cX5_digest 66 = .ok (.lmul, 1) := by decide +kernel
theorem dX5_digest_67 : decode cX5_digest 67 = .ok (.aload_n 0, 1) := by decide +kernel
theorem dX5_digest_68 : decode cX5_digest 68 = .ok (.iload_n 3, 1) := by decide +kernel
theorem dX5_digest_69 : decode cX5_digest 69 = .ok (.invokevirtual 280, 3) := by decide +kernel
theorem dX5_digest_72 : decode cX5_digest 72 = .ok (.i2l, 1) := by decide +kernel
theorem dX5_digest_73 : decode cX5_digest 73 = .ok (.ladd, 1) := by decide +kernel
theorem dX5_digest_74 : decode cX5_digest 74 = .ok (.lstore_n 1, 1) := by decide +kernel
theorem dX5_digest_75 : decode cX5_digest 75 = .ok (.iinc 3 1, 3) := by decide +kernel
theorem dX5_digest_78 : decode cX5_digest 78 = .ok (.goto (-33), 3) := by decide +kernel
theorem dX5_digest_81 : decode cX5_digest 81 = .ok (.lload_n 1, 1) := by decide +kernel
theorem dX5_digest_82 : decode cX5_digest 82 = .ok (.ldc2_w 269, 3) := by decide +kernel
theorem dX5_digest_85 : decode cX5_digest 85 = .ok (.lmul, 1) := by decide +kernel
theorem dX5_digest_86 : decode cX5_digest 86 = .ok (.aload_n 0, 1) := by decide +kernel
theorem dX5_digest_87 : decode cX5_digest 87 = .ok (.invokevirtual 283, 3) := by decide +kernel
theorem dX5_digest_90 : decode cX5_digest 90 = .ok (.i2l, 1) := by decide +kernel
theorem dX5_digest_91 : decode cX5_digest 91 = .ok (.ladd, 1) := by decide +kernel
theorem dX5_digest_92 : decode cX5_digest 92 = .ok (.lstore_n 1, 1) := by decide +kernel
theorem dX5_digest_93 : decode cX5_digest 93 = .ok (.lload_n 1, 1) := by decide +kernel
theorem dX5_digest_94 : decode cX5_digest 94 = .ok (.ldc2_w 269, 3) := by decide +kernel
theorem dX5_digest_97 : decode cX5_digest 97 = .ok (.lmul, 1) := by decide +kernel
theorem dX5_digest_98 : decode cX5_digest 98 = .ok (.aload_n 0, 1) := by decide +kernel
theorem dX5_digest_99 : decode cX5_digest 99 = .ok (.iconst 5, 1) := by decide +kernel
theorem dX5_digest_100 : decode cX5_digest 100 = .ok (.invokevirtual 286, 3) := by decide +kernel
theorem dX5_digest_103 : decode cX5_digest 103 = .ok (.i2l, 1) := by decide +kernel
theorem dX5_digest_104 : decode cX5_digest 104 = .ok (.ladd, 1) := by decide +kernel
theorem dX5_digest_105 : decode cX5_digest 105 = .ok (.lstore_n 1, 1) := by decide +kernel
theorem dX5_digest_106 : decode cX5_digest 106 = .ok (.iconst 0, 1) := by decide +kernel
theorem dX5_digest_107 : decode cX5_digest 107 = .ok (.istore_n 3, 1) := by decide +kernel
theorem dX5_digest_108 : decode cX5_digest 108 = .ok (.iload_n 3, 1) := by decide +kernel
theorem dX5_digest_109 : decode cX5_digest 109 = .ok (.bipush 9, 2) := by decide +kernel
theorem dX5_digest_111 : decode cX5_digest 111 = .ok (.if_icmp .gt 48, 3) := by decide +kernel
theorem dX5_digest_114 : decode cX5_digest 114 = .ok (.lload_n 1, 1) := by decide +kernel
theorem dX5_digest_115 : decode cX5_digest 115 = .ok (.ldc2_w 269, 3) := by decide +kernel
theorem dX5_digest_118 : decode cX5_digest 118 = .ok (.lmul, 1) := by decide +kernel
theorem dX5_digest_119 : decode cX5_digest 119 = .ok (.aload_n 0, 1) := by decide +kernel
theorem dX5_digest_120 : decode cX5_digest 120 = .ok (.iload_n 3, 1) := by decide +kernel
theorem dX5_digest_121 : decode cX5_digest 121 = .ok (.invokevirtual 289, 3) := by decide +kernel
theorem dX5_digest_124 : decode cX5_digest 124 = .ok (.i2l, 1) := by decide +kernel
theorem dX5_digest_125 : decode cX5_digest 125 = .ok (.ladd, 1) := by decide +kernel
theorem dX5_digest_126 : decode cX5_digest 126 = .ok (.lstore_n 1, 1) := by decide +kernel
theorem dX5_digest_127 : decode cX5_digest 127 = .ok (.lload_n 1, 1) := by decide +kernel
theorem dX5_digest_128 : decode cX5_digest 128 = .ok (.ldc2_w 269, 3) := by decide +kernel
theorem dX5_digest_131 : decode cX5_digest 131 = .ok (.lmul, 1) := by decide +kernel
theorem dX5_digest_132 : decode cX5_digest 132 = .ok (.aload_n 0, 1) := by decide +kernel
theorem dX5_digest_133 : decode cX5_digest 133 = .ok (.iload_n 3, 1) := by decide +kernel
theorem dX5_digest_134 : decode cX5_digest 134 = .ok (.invokevirtual 292, 3) := by decide +kernel
theorem dX5_digest_137 : decode cX5_digest 137 = .ok (.i2l, 1) := by decide +kernel
theorem dX5_digest_138 : decode cX5_digest 138 = .ok (.ladd, 1) := by decide +kernel
theorem dX5_digest_139 : decode cX5_digest 139 = .ok (.lstore_n 1, 1) := by decide +kernel
theorem dX5_digest_140 : decode cX5_digest 140 = .ok (.lload_n 1, 1) := by decide +kernel
theorem dX5_digest_141 : decode cX5_digest 141 = .ok (.ldc2_w 269, 3) := by decide +kernel
theorem dX5_digest_144 : decode cX5_digest 144 = .ok (.lmul, 1) := by decide +kernel
theorem dX5_digest_145 : decode cX5_digest 145 = .ok (.aload_n 0, 1) := by decide +kernel
theorem dX5_digest_146 : decode cX5_digest 146 = .ok (.iload_n 3, 1) := by decide +kernel
theorem dX5_digest_147 : decode cX5_digest 147 = .ok (.invokevirtual 295, 3) := by decide +kernel
theorem dX5_digest_150 : decode cX5_digest 150 = .ok (.i2l, 1) := by decide +kernel
theorem dX5_digest_151 : decode cX5_digest 151 = .ok (.ladd, 1) := by decide +kernel
theorem dX5_digest_152 : decode cX5_digest 152 = .ok (.lstore_n 1, 1) := by decide +kernel
theorem dX5_digest_153 : decode cX5_digest 153 = .ok (.iinc 3 1, 3) := by decide +kernel
theorem dX5_digest_156 : decode cX5_digest 156 = .ok (.goto (-48), 3) := by decide +kernel
theorem dX5_digest_159 : decode cX5_digest 159 = .ok (.lload_n 1, 1) := by decide +kernel
theorem dX5_digest_160 : decode cX5_digest 160 = .ok (.lreturn, 1) := by decide +kernel
set_option maxRecDepth 20000 in
theorem ggX5_digestOfKnown_X5_ofKnown : GoodIn wsX5_digestOfKnown wsX5_ofKnown := goodIn_ca (goodIn_ca (goodIn_r _ [7, 8, 9, 10, 11, 1, 12, 13, 14, 15, 16, 17, 18, 6, 19, 20, 21, 22, 23, 24, 25, 26, 27, 28, 29, 30, 31, 32, 33, 34, 35, 36, 37, 38, 39, 40, 41, 42, 43, 44, 45, 46, 47, 48, 49, 50, 51, 52, 53, 54, 55, 56, 57, 58, 59, 60, 61, 62, 63, 64] (by decide +kernel) (by decide +kernel)) (goodIn_sub (fun _ h => List.mem_cons_of_mem _ (List.mem_append_left _ (List.mem_append_right _ h))) (by decide +kernel))) (goodIn_sub (fun _ h => List.mem_cons_of_mem _ (List.mem_append_right _ h)) (by decide +kernel))
set_option maxRecDepth 20000 in
theorem gX5_digestOfKnown_X5_ofKnown : GoodIn wsX5_digestOfKnown (wsV RX5 298 RX5 yX5_ofKnown wsX5_ofKnown) := goodIn_app (goodIn_of _ (by decide +kernel)) ggX5_digestOfKnown_X5_ofKnown
theorem dX5_digestOfKnown_0 : decode cX5_digestOfKnown 0 = .ok (.lload_n 1, 1) := by decide +kernel
theorem dX5_digestOfKnown_1 : decode cX5_digestOfKnown 1 = .ok (.lstore_n 3, 1) := by decide +kernel
theorem dX5_digestOfKnown_2 : decode cX5_digestOfKnown 2 = .ok (.iconst 0, 1) := by decide +kernel
theorem dX5_digestOfKnown_3 : decode cX5_digestOfKnown 3 = .ok (.istore 5, 2) := by decide +kernel
theorem dX5_digestOfKnown_5 : decode cX5_digestOfKnown 5 = .ok (.iload 5, 2) := by decide +kernel
theorem dX5_digestOfKnown_7 : decode cX5_digestOfKnown 7 = .ok (.aload_n 0, 1) := by decide +kernel
theorem dX5_digestOfKnown_8 : decode cX5_digestOfKnown 8 = .ok (.getfield 33, 3) := by decide +kernel
theorem dX5_digestOfKnown_11 : decode cX5_digestOfKnown 11 = .ok (.getfield 151, 3) := by decide +kernel
theorem dX5_digestOfKnown_14 : decode cX5_digestOfKnown 14 = .ok (.if_icmp .ge 48, 3) := by decide +kernel
theorem dX5_digestOfKnown_17 : decode cX5_digestOfKnown 17 = .ok (.iload 5, 2) := by decide +kernel
theorem dX5_digestOfKnown_19 : decode cX5_digestOfKnown 19 = .ok (.bipush 40, 2) := by decide +kernel
theorem dX5_digestOfKnown_21 : decode cX5_digestOfKnown 21 = .ok (.if_icmp .ge 41, 3) := by decide +kernel
theorem dX5_digestOfKnown_24 : decode cX5_digestOfKnown 24 = .ok (.iconst 0, 1) := by decide +kernel
theorem dX5_digestOfKnown_25 : decode cX5_digestOfKnown 25 = .ok (.istore 6, 2) := by decide +kernel
theorem dX5_digestOfKnown_27 : decode cX5_digestOfKnown 27 = .ok (.iload 6, 2) := by decide +kernel
theorem dX5_digestOfKnown_29 : decode cX5_digestOfKnown 29 = .ok (.bipush 6, 2) := by decide +kernel
theorem dX5_digestOfKnown_31 : decode cX5_digestOfKnown 31 = .ok (.if_icmp .gt 25, 3) := by decide +kernel
theorem dX5_digestOfKnown_34 : decode cX5_digestOfKnown 34 = .ok (.lload_n 3, 1) := by decide +kernel
theorem dX5_digestOfKnown_35 : decode cX5_digestOfKnown 35 = .ok (.ldc2_w 269, 3) := by decide +kernel
theorem dX5_digestOfKnown_38 : decode cX5_digestOfKnown 38 = .ok (.lmul, 1) := by decide +kernel
theorem dX5_digestOfKnown_39 : decode cX5_digestOfKnown 39 = .ok (.aload_n 0, 1) := by decide +kernel
theorem dX5_digestOfKnown_40 : decode cX5_digestOfKnown 40 = .ok (.iload 5, 2) := by decide +kernel
theorem dX5_digestOfKnown_42 : decode cX5_digestOfKnown 42 = .ok (.iload 6, 2) := by decide +kernel
theorem dX5_digestOfKnown_44 : decode cX5_digestOfKnown 44 = .ok (.invokevirtual 298, 3) := by decide +kernel
theorem dX5_digestOfKnown_47 : decode cX5_digestOfKnown 47 = .ok (.i2l, 1) := by decide +kernel
theorem dX5_digestOfKnown_48 : decode cX5_digestOfKnown 48 = .ok (.ladd, 1) := by decide +kernel
theorem dX5_digestOfKnown_49 : decode cX5_digestOfKnown 49 = .ok (.lstore_n 3, 1) := by decide +kernel
theorem dX5_digestOfKnown_50 : decode cX5_digestOfKnown 50 = .ok (.iinc 6 1, 3) := by decide +kernel
theorem dX5_digestOfKnown_53 : decode cX5_digestOfKnown 53 = .ok (.goto (-26), 3) := by decide +kernel
theorem dX5_digestOfKnown_56 : decode cX5_digestOfKnown 56 = .ok (.iinc 5 1, 3) := by decide +kernel
theorem dX5_digestOfKnown_59 : decode cX5_digestOfKnown 59 = .ok (.goto (-54), 3) := by decide +kernel
theorem dX5_digestOfKnown_62 : decode cX5_digestOfKnown 62 = .ok (.lload_n 3, 1) := by decide +kernel
theorem dX5_digestOfKnown_63 : decode cX5_digestOfKnown 63 = .ok (.lreturn, 1) := by decide +kernel
set_option maxRecDepth 20000 in
theorem ggX5_digestOfEdges_X5_ofEdge : GoodIn wsX5_digestOfEdges wsX5_ofEdge := goodIn_ca (goodIn_ca (goodIn_r _ [6, 7, 8, 9, 10, 11, 5, 12, 13, 14, 15, 16, 17, 18, 19, 20, 21, 22, 23, 24, 25, 26, 27, 28, 29, 30, 31, 32, 33, 34, 35, 36, 37, 38, 39, 40, 41, 42, 43, 44, 45, 46, 47, 48, 49, 50, 51] (by decide +kernel) (by decide +kernel)) (goodIn_sub (fun _ h => List.mem_cons_of_mem _ (List.mem_append_left _ (List.mem_append_right _ h))) (by decide +kernel))) (goodIn_sub (fun _ h => List.mem_cons_of_mem _ (List.mem_append_right _ h)) (by decide +kernel))
set_option maxRecDepth 20000 in
theorem gX5_digestOfEdges_X5_ofEdge : GoodIn wsX5_digestOfEdges (wsV RX5 301 RX5 yX5_ofEdge wsX5_ofEdge) := goodIn_app (goodIn_of _ (by decide +kernel)) ggX5_digestOfEdges_X5_ofEdge
theorem dX5_digestOfEdges_0 : decode cX5_digestOfEdges 0 = .ok (.lload_n 1, 1) := by decide +kernel
theorem dX5_digestOfEdges_1 : decode cX5_digestOfEdges 1 = .ok (.lstore_n 3, 1) := by decide +kernel
theorem dX5_digestOfEdges_2 : decode cX5_digestOfEdges 2 = .ok (.iconst 0, 1) := by decide +kernel
theorem dX5_digestOfEdges_3 : decode cX5_digestOfEdges 3 = .ok (.istore 5, 2) := by decide +kernel
theorem dX5_digestOfEdges_5 : decode cX5_digestOfEdges 5 = .ok (.iload 5, 2) := by decide +kernel
theorem dX5_digestOfEdges_7 : decode cX5_digestOfEdges 7 = .ok (.bipush 24, 2) := by decide +kernel
theorem dX5_digestOfEdges_9 : decode cX5_digestOfEdges 9 = .ok (.if_icmp .ge 40, 3) := by decide +kernel
theorem dX5_digestOfEdges_12 : decode cX5_digestOfEdges 12 = .ok (.iconst 0, 1) := by decide +kernel
theorem dX5_digestOfEdges_13 : decode cX5_digestOfEdges 13 = .ok (.istore 6, 2) := by decide +kernel
theorem dX5_digestOfEdges_15 : decode cX5_digestOfEdges 15 = .ok (.iload 6, 2) := by decide +kernel
theorem dX5_digestOfEdges_17 : decode cX5_digestOfEdges 17 = .ok (.iconst 2, 1) := by decide +kernel
theorem dX5_digestOfEdges_18 : decode cX5_digestOfEdges 18 = .ok (.if_icmp .gt 25, 3) := by decide +kernel
theorem dX5_digestOfEdges_21 : decode cX5_digestOfEdges 21 = .ok (.lload_n 3, 1) := by decide +kernel
theorem dX5_digestOfEdges_22 : decode cX5_digestOfEdges 22 = .ok (.ldc2_w 269, 3) := by decide +kernel
theorem dX5_digestOfEdges_25 : decode cX5_digestOfEdges 25 = .ok (.lmul, 1) := by decide +kernel
theorem dX5_digestOfEdges_26 : decode cX5_digestOfEdges 26 = .ok (.aload_n 0, 1) := by decide +kernel
theorem dX5_digestOfEdges_27 : decode cX5_digestOfEdges 27 = .ok (.iload 5, 2) := by decide +kernel
theorem dX5_digestOfEdges_29 : decode cX5_digestOfEdges 29 = .ok (.iload 6, 2) := by decide +kernel
theorem dX5_digestOfEdges_31 : decode cX5_digestOfEdges 31 = .ok (.invokevirtual 301, 3) := by decide +kernel
theorem dX5_digestOfEdges_34 : decode cX5_digestOfEdges 34 = .ok (.i2l, 1) := by decide +kernel
theorem dX5_digestOfEdges_35 : decode cX5_digestOfEdges 35 = .ok (.ladd, 1) := by decide +kernel
theorem dX5_digestOfEdges_36 : decode cX5_digestOfEdges 36 = .ok (.lstore_n 3, 1) := by decide +kernel
theorem dX5_digestOfEdges_37 : decode cX5_digestOfEdges 37 = .ok (.iinc 6 1, 3) := by decide +kernel
theorem dX5_digestOfEdges_40 : decode cX5_digestOfEdges 40 = .ok (.goto (-25), 3) := by decide +kernel
theorem dX5_digestOfEdges_43 : decode cX5_digestOfEdges 43 = .ok (.iinc 5 1, 3) := by decide +kernel
theorem dX5_digestOfEdges_46 : decode cX5_digestOfEdges 46 = .ok (.goto (-41), 3) := by decide +kernel
theorem dX5_digestOfEdges_49 : decode cX5_digestOfEdges 49 = .ok (.lload_n 3, 1) := by decide +kernel
theorem dX5_digestOfEdges_50 : decode cX5_digestOfEdges 50 = .ok (.lreturn, 1) := by decide +kernel
set_option maxRecDepth 20000 in
theorem ggX5_resultOf_X2_follow : GoodIn wsX5_resultOf wsX2_follow := goodIn_r _ [7, 8, 9, 10, 11, 12, 13, 14, 15, 16, 17, 18, 19, 20, 21, 22, 23, 6, 24, 25, 26, 27, 28, 29, 30, 31, 32, 33, 34, 35, 36, 37, 38, 39, 40, 41, 42, 52, 53, 54, 55, 56, 48, 49, 50, 51] (by decide +kernel) (by decide +kernel)
set_option maxRecDepth 20000 in
theorem gX5_resultOf_X2_follow : GoodIn wsX5_resultOf (wsV RX5 81 RX2 yX2_follow wsX2_follow) := goodIn_app (goodIn_of _ (by decide +kernel)) ggX5_resultOf_X2_follow
theorem dX5_resultOf_0 : decode cX5_resultOf 0 = .ok (.aload_n 0, 1) := by decide +kernel
theorem dX5_resultOf_1 : decode cX5_resultOf 1 = .ok (.getfield 10, 3) := by decide +kernel
theorem dX5_resultOf_4 : decode cX5_resultOf 4 = .ok (.iload_n 1, 1) := by decide +kernel
theorem dX5_resultOf_5 : decode cX5_resultOf 5 = .ok (.aload_n 0, 1) := by decide +kernel
theorem dX5_resultOf_6 : decode cX5_resultOf 6 = .ok (.getfield 19, 3) := by decide +kernel
theorem dX5_resultOf_9 : decode cX5_resultOf 9 = .ok (.invokevirtual 81, 3) := by decide +kernel
theorem dX5_resultOf_12 : decode cX5_resultOf 12 = .ok (.aload_n 0, 1) := by decide +kernel
theorem dX5_resultOf_13 : decode cX5_resultOf 13 = .ok (.getfield 19, 3) := by decide +kernel
theorem dX5_resultOf_16 : decode cX5_resultOf 16 = .ok (.getfield 304, 3) := by decide +kernel
theorem dX5_resultOf_19 : decode cX5_resultOf 19 = .ok (.ireturn, 1) := by decide +kernel
set_option maxRecDepth 20000 in
theorem ggX5_tasteOf_X2_follow : GoodIn wsX5_tasteOf wsX2_follow := goodIn_r _ [8, 9, 10, 11, 12, 13, 14, 15, 16, 17, 18, 19, 20, 21, 22, 23, 24, 7, 25, 26, 27, 28, 29, 30, 31, 32, 33, 34, 35, 36, 37, 38, 39, 40, 41, 42, 43, 87, 88, 89, 90, 91, 92, 93, 94, 95] (by decide +kernel) (by decide +kernel)
set_option maxRecDepth 20000 in
theorem gX5_tasteOf_X2_follow : GoodIn wsX5_tasteOf (wsV RX5 81 RX2 yX2_follow wsX2_follow) := goodIn_app (goodIn_of _ (by decide +kernel)) ggX5_tasteOf_X2_follow
set_option maxRecDepth 20000 in
theorem ggX5_tasteOf_X0_keptIfTasted : GoodIn wsX5_tasteOf wsX0_keptIfTasted := goodIn_r _ [48, 49, 50, 51, 52, 53, 54, 47, 55, 56, 57, 58, 59, 60, 61, 62, 63, 64, 65, 66, 36, 20, 37, 67, 68, 69, 70, 71, 72, 73, 74, 75, 76, 96, 97, 98, 99, 100, 101, 92, 93, 94, 95] (by decide +kernel) (by decide +kernel)
set_option maxRecDepth 20000 in
theorem gX5_tasteOf_X0_keptIfTasted : GoodIn wsX5_tasteOf (wsV RX5 234 RX0 yX0_keptIfTasted wsX0_keptIfTasted) := goodIn_app (goodIn_of _ (by decide +kernel)) ggX5_tasteOf_X0_keptIfTasted
set_option maxRecDepth 20000 in
theorem ggX5_tasteOf_X0_take : GoodIn wsX5_tasteOf wsX0_take := goodIn_r _ [80, 50, 49, 96, 97, 98, 99, 100, 101] (by decide +kernel) (by decide +kernel)
set_option maxRecDepth 20000 in
theorem gX5_tasteOf_X0_take : GoodIn wsX5_tasteOf (wsV RX5 307 RX0 yX0_take wsX0_take) := goodIn_app (goodIn_of _ (by decide +kernel)) ggX5_tasteOf_X0_take
set_option maxRecDepth 20000 in
theorem ggX5_tasteOf_X0_numberOf : GoodIn wsX5_tasteOf wsX0_numberOf := goodIn_r _ [55, 49, 51, 96, 97, 98, 99, 100, 101] (by decide +kernel) (by decide +kernel)
set_option maxRecDepth 20000 in
theorem gX5_tasteOf_X0_numberOf : GoodIn wsX5_tasteOf (wsV RX5 311 RX0 yX0_numberOf wsX0_numberOf) := goodIn_app (goodIn_of _ (by decide +kernel)) ggX5_tasteOf_X0_numberOf
theorem dX5_tasteOf_0 : decode cX5_tasteOf 0 = .ok (.aload_n 0, 1) := by decide +kernel
theorem dX5_tasteOf_1 : decode cX5_tasteOf 1 = .ok (.getfield 10, 3) := by decide +kernel
theorem dX5_tasteOf_4 : decode cX5_tasteOf 4 = .ok (.iload_n 1, 1) := by decide +kernel
theorem dX5_tasteOf_5 : decode cX5_tasteOf 5 = .ok (.aload_n 0, 1) := by decide +kernel
theorem dX5_tasteOf_6 : decode cX5_tasteOf 6 = .ok (.getfield 19, 3) := by decide +kernel
theorem dX5_tasteOf_9 : decode cX5_tasteOf 9 = .ok (.invokevirtual 81, 3) := by decide +kernel
theorem dX5_tasteOf_12 : decode cX5_tasteOf 12 = .ok (.aload_n 0, 1) := by decide +kernel
theorem dX5_tasteOf_13 : decode cX5_tasteOf 13 = .ok (.getfield 33, 3) := by decide +kernel
theorem dX5_tasteOf_16 : decode cX5_tasteOf 16 = .ok (.aload_n 0, 1) := by decide +kernel
theorem dX5_tasteOf_17 : decode cX5_tasteOf 17 = .ok (.getfield 33, 3) := by decide +kernel
theorem dX5_tasteOf_20 : decode cX5_tasteOf 20 = .ok (.iload_n 1, 1) := by decide +kernel
theorem dX5_tasteOf_21 : decode cX5_tasteOf 21 = .ok (.aload_n 0, 1) := by decide +kernel
theorem dX5_tasteOf_22 : decode cX5_tasteOf 22 = .ok (.getfield 19, 3) := by decide +kernel
theorem dX5_tasteOf_25 : decode cX5_tasteOf 25 = .ok (.invokevirtual 234, 3) := by decide +kernel
theorem dX5_tasteOf_28 : decode cX5_tasteOf 28 = .ok (.invokevirtual 307, 3) := by decide +kernel
theorem dX5_tasteOf_31 : decode cX5_tasteOf 31 = .ok (.aload_n 0, 1) := by decide +kernel
theorem dX5_tasteOf_32 : decode cX5_tasteOf 32 = .ok (.getfield 33, 3) := by decide +kernel
theorem dX5_tasteOf_35 : decode cX5_tasteOf 35 = .ok (.iload_n 1, 1) := by decide +kernel
theorem dX5_tasteOf_36 : decode cX5_tasteOf 36 = .ok (.invokevirtual 311, 3) := by decide +kernel
theorem dX5_tasteOf_39 : decode cX5_tasteOf 39 = .ok (.ireturn, 1) := by decide +kernel
set_option maxRecDepth 20000 in
theorem ggX5_keptAfterChange_X2_follow : GoodIn wsX5_keptAfterChange wsX2_follow := goodIn_r _ [8, 9, 10, 11, 12, 13, 14, 15, 16, 17, 18, 19, 20, 21, 22, 23, 24, 7, 25, 26, 27, 28, 29, 30, 31, 32, 33, 34, 35, 36, 37, 38, 39, 40, 41, 42, 43, 94, 95, 96, 97, 98, 99, 100, 101, 102] (by decide +kernel) (by decide +kernel)
set_option maxRecDepth 20000 in
theorem gX5_keptAfterChange_X2_follow : GoodIn wsX5_keptAfterChange (wsV RX5 81 RX2 yX2_follow wsX2_follow) := goodIn_app (goodIn_of _ (by decide +kernel)) ggX5_keptAfterChange_X2_follow
set_option maxRecDepth 20000 in
theorem ggX5_keptAfterChange_X0_note : GoodIn wsX5_keptAfterChange wsX0_note := goodIn_r _ [48, 49, 50, 88, 89, 90, 91, 92, 93, 99, 100, 101, 102] (by decide +kernel) (by decide +kernel)
set_option maxRecDepth 20000 in
theorem gX5_keptAfterChange_X0_note : GoodIn wsX5_keptAfterChange (wsV RX5 314 RX0 yX0_note wsX0_note) := goodIn_app (goodIn_of _ (by decide +kernel)) ggX5_keptAfterChange_X0_note
set_option maxRecDepth 20000 in
theorem ggX5_keptAfterChange_X0_settle : GoodIn wsX5_keptAfterChange wsX0_settle := goodIn_r _ [54, 55, 56, 57, 58, 59, 47, 60, 61, 20, 62, 63, 64, 65, 66, 50, 67, 36, 37, 68, 69, 70, 71, 72, 73, 74, 75, 88, 89, 90, 91, 92, 93] (by decide +kernel) (by decide +kernel)
set_option maxRecDepth 20000 in
theorem gX5_keptAfterChange_X0_settle : GoodIn wsX5_keptAfterChange (wsV RX5 317 RX0 yX0_settle wsX0_settle) := goodIn_app (goodIn_of _ (by decide +kernel)) ggX5_keptAfterChange_X0_settle
set_option maxRecDepth 20000 in
theorem ggX5_keptAfterChange_J13_bitCount_95d88 : GoodIn wsX5_keptAfterChange wsJ13_bitCount_95d88 := goodIn_r _ [79, 80, 81, 82] (by decide +kernel) (by decide +kernel)
set_option maxRecDepth 20000 in
theorem gX5_keptAfterChange_J13_bitCount_95d88 : GoodIn wsX5_keptAfterChange (va_wsS RX5 187 yJ13_bitCount_95d88 wsJ13_bitCount_95d88) := goodIn_app (goodIn_of _ (by decide +kernel)) ggX5_keptAfterChange_J13_bitCount_95d88
theorem dX5_keptAfterChange_0 : decode cX5_keptAfterChange 0 = .ok (.iconst 0, 1) := by decide +kernel
theorem dX5_keptAfterChange_1 : decode cX5_keptAfterChange 1 = .ok (.istore_n 1, 1) := by decide +kernel
theorem dX5_keptAfterChange_2 : decode cX5_keptAfterChange 2 = .ok (.iload_n 1, 1) := by decide +kernel
theorem dX5_keptAfterChange_3 : decode cX5_keptAfterChange 3 = .ok (.aload_n 0, 1) := by decide +kernel
theorem dX5_keptAfterChange_4 : decode cX5_keptAfterChange 4 = .ok (.getfield 33, 3) := by decide +kernel
theorem dX5_keptAfterChange_7 : decode cX5_keptAfterChange 7 = .ok (.getfield 151, 3) := by decide +kernel
theorem dX5_keptAfterChange_10 : decode cX5_keptAfterChange 10 = .ok (.if_icmp .ge 47, 3) := by decide +kernel
theorem dX5_keptAfterChange_13 : decode cX5_keptAfterChange 13 = .ok (.iload_n 1, 1) := by decide +kernel
theorem dX5_keptAfterChange_14 : decode cX5_keptAfterChange 14 = .ok (.bipush 40, 2) := by decide +kernel
theorem dX5_keptAfterChange_16 : decode cX5_keptAfterChange 16 = .ok (.if_icmp .ge 41, 3) := by decide +kernel
theorem dX5_keptAfterChange_19 : decode cX5_keptAfterChange 19 = .ok (.aload_n 0, 1) := by decide +kernel
theorem dX5_keptAfterChange_20 : decode cX5_keptAfterChange 20 = .ok (.getfield 10, 3) := by decide +kernel
theorem dX5_keptAfterChange_23 : decode cX5_keptAfterChange 23 = .ok (.aload_n 0, 1) := by decide +kernel
theorem dX5_keptAfterChange_24 : decode cX5_keptAfterChange 24 = .ok (.getfield 33, 3) := by decide +kernel
theorem dX5_keptAfterChange_27 : decode cX5_keptAfterChange 27 = .ok (.getfield 145, 3) := by decide +kernel
theorem dX5_keptAfterChange_30 : decode cX5_keptAfterChange 30 = .ok (.iload_n 1, 1) := by decide +kernel
theorem dX5_keptAfterChange_31 : decode cX5_keptAfterChange 31 = .ok (.iaload, 1) := by decide +kernel
theorem dX5_keptAfterChange_32 : decode cX5_keptAfterChange 32 = .ok (.aload_n 0, 1) := by decide +kernel
theorem dX5_keptAfterChange_33 : decode cX5_keptAfterChange 33 = .ok (.getfield 19, 3) := by decide +kernel
theorem dX5_keptAfterChange_36 : decode cX5_keptAfterChange 36 = .ok (.invokevirtual 81, 3) := by decide +kernel
theorem dX5_keptAfterChange_39 : decode cX5_keptAfterChange 39 = .ok (.aload_n 0, 1) := by decide +kernel
theorem dX5_keptAfterChange_40 : decode cX5_keptAfterChange 40 = .ok (.getfield 33, 3) := by decide +kernel
theorem dX5_keptAfterChange_43 : decode cX5_keptAfterChange 43 = .ok (.iload_n 1, 1) := by decide +kernel
theorem dX5_keptAfterChange_44 : decode cX5_keptAfterChange 44 = .ok (.aload_n 0, 1) := by decide +kernel
theorem dX5_keptAfterChange_45 : decode cX5_keptAfterChange 45 = .ok (.getfield 19, 3) := by decide +kernel
theorem dX5_keptAfterChange_48 : decode cX5_keptAfterChange 48 = .ok (.invokevirtual 314, 3) := by decide +kernel
theorem dX5_keptAfterChange_51 : decode cX5_keptAfterChange 51 = .ok (.iinc 1 1, 3) := by decide +kernel
theorem dX5_keptAfterChange_54 : decode cX5_keptAfterChange 54 = .ok (.goto (-52), 3) := by decide +kernel
theorem dX5_keptAfterChange_57 : decode cX5_keptAfterChange 57 = .ok (.aload_n 0, 1) := by decide +kernel
theorem dX5_keptAfterChange_58 : decode cX5_keptAfterChange 58 = .ok (.getfield 33, 3) := by decide +kernel
theorem dX5_keptAfterChange_61 : decode cX5_keptAfterChange 61 = .ok (.invokevirtual 317, 3) := by decide +kernel
theorem dX5_keptAfterChange_64 : decode cX5_keptAfterChange 64 = .ok (.aload_n 0, 1) := by decide +kernel
theorem dX5_keptAfterChange_65 : decode cX5_keptAfterChange 65 = .ok (.getfield 33, 3) := by decide +kernel
theorem dX5_keptAfterChange_68 : decode cX5_keptAfterChange 68 = .ok (.getfield 171, 3) := by decide +kernel
theorem dX5_keptAfterChange_71 : decode cX5_keptAfterChange 71 = .ok (.invokestatic 187, 3) := by decide +kernel
theorem dX5_keptAfterChange_74 : decode cX5_keptAfterChange 74 = .ok (.ireturn, 1) := by decide +kernel
set_option maxRecDepth 20000 in
theorem ggX5_shrunk_X5_shrunkAt : GoodIn wsX5_shrunk wsX5_shrunkAt := goodIn_r _ [5, 6, 7, 4, 8, 9, 10, 11, 12, 13, 14, 15, 16, 17, 18, 19, 20, 21, 22, 23, 24, 25, 26, 27, 28, 29, 30, 31, 32, 33, 34, 35, 36, 37, 38, 39, 40, 41, 42, 43, 44, 45, 46, 47, 48, 49, 50, 51, 52, 53, 54, 55, 56, 57, 58, 59, 60, 61, 62, 63, 64, 65, 66, 67, 68, 69, 70, 71] (by decide +kernel) (by decide +kernel)
set_option maxRecDepth 20000 in
theorem gX5_shrunk_X5_shrunkAt : GoodIn wsX5_shrunk (wsV RX5 320 RX5 yX5_shrunkAt wsX5_shrunkAt) := goodIn_app (goodIn_of _ (by decide +kernel)) ggX5_shrunk_X5_shrunkAt
theorem dX5_shrunk_0 : decode cX5_shrunk 0 = .ok (.iload_n 1, 1) := by decide +kernel
theorem dX5_shrunk_1 : decode cX5_shrunk 1 = .ok (.istore_n 3, 1) := by decide +kernel
theorem dX5_shrunk_2 : decode cX5_shrunk 2 = .ok (.iconst 0, 1) := by decide +kernel
theorem dX5_shrunk_3 : decode cX5_shrunk 3 = .ok (.istore 4, 2) := by decide +kernel
theorem dX5_shrunk_5 : decode cX5_shrunk 5 = .ok (.iload 4, 2) := by decide +kernel
theorem dX5_shrunk_7 : decode cX5_shrunk 7 = .ok (.sipush 10000, 3) := by decide +kernel
theorem dX5_shrunk_10 : decode cX5_shrunk 10 = .ok (.if_icmp .ge 44, 3) := by decide +kernel
theorem dX5_shrunk_13 : decode cX5_shrunk 13 = .ok (.iload_n 3, 1) := by decide +kernel
theorem dX5_shrunk_14 : decode cX5_shrunk 14 = .ok (.istore 5, 2) := by decide +kernel
theorem dX5_shrunk_16 : decode cX5_shrunk 16 = .ok (.iconst 0, 1) := by decide +kernel
theorem dX5_shrunk_17 : decode cX5_shrunk 17 = .ok (.istore 6, 2) := by decide +kernel
theorem dX5_shrunk_19 : decode cX5_shrunk 19 = .ok (.iload 6, 2) := by decide +kernel
theorem dX5_shrunk_21 : decode cX5_shrunk 21 = .ok (.iconst 4, 1) := by decide +kernel
theorem dX5_shrunk_22 : decode cX5_shrunk 22 = .ok (.if_icmp .ge 18, 3) := by decide +kernel
theorem dX5_shrunk_25 : decode cX5_shrunk 25 = .ok (.aload_n 0, 1) := by decide +kernel
theorem dX5_shrunk_26 : decode cX5_shrunk 26 = .ok (.iload 6, 2) := by decide +kernel
theorem dX5_shrunk_28 : decode cX5_shrunk 28 = .ok (.iload_n 3, 1) := by decide +kernel
theorem dX5_shrunk_29 : decode cX5_shrunk 29 = .ok (.iload_n 2, 1) := by decide +kernel
theorem dX5_shrunk_30 : decode cX5_shrunk 30 = .ok (.invokevirtual 320, 3) := by decide +kernel
theorem dX5_shrunk_33 : decode cX5_shrunk 33 = .ok (.istore_n 3, 1) := by decide +kernel
theorem dX5_shrunk_34 : decode cX5_shrunk 34 = .ok (.iinc 6 1, 3) := by decide +kernel
theorem dX5_shrunk_37 : decode cX5_shrunk 37 = .ok (.goto (-18), 3) := by decide +kernel
theorem dX5_shrunk_40 : decode cX5_shrunk 40 = .ok (.iload_n 3, 1) := by decide +kernel
theorem dX5_shrunk_41 : decode cX5_shrunk 41 = .ok (.iload 5, 2) := by decide +kernel
theorem dX5_shrunk_43 : decode cX5_shrunk 43 = .ok (.if_icmp .ne 5, 3) := by decide +kernel
theorem dX5_shrunk_46 : decode cX5_shrunk 46 = .ok (.iload_n 3, 1) := by decide +kernel
theorem dX5_shrunk_47 : decode cX5_shrunk 47 = .ok (.ireturn, 1) := by decide +kernel
theorem dX5_shrunk_48 : decode cX5_shrunk 48 = .ok (.iinc 4 1, 3) := by decide +kernel
theorem dX5_shrunk_51 : decode cX5_shrunk 51 = .ok (.goto (-46), 3) := by decide +kernel
theorem dX5_shrunk_54 : decode cX5_shrunk 54 = .ok (.iload_n 3, 1) := by decide +kernel
theorem dX5_shrunk_55 : decode cX5_shrunk 55 = .ok (.ireturn, 1) := by decide +kernel
set_option maxRecDepth 20000 in
theorem ggX5_shrunkAt_X5_valueOf : GoodIn wsX5_shrunkAt wsX5_valueOf := goodIn_r _ [4] (by decide +kernel) (by decide +kernel)
set_option maxRecDepth 20000 in
theorem gX5_shrunkAt_X5_valueOf : GoodIn wsX5_shrunkAt (va_wsS RX5 323 yX5_valueOf wsX5_valueOf) := goodIn_app (goodIn_of _ (by decide +kernel)) ggX5_shrunkAt_X5_valueOf
set_option maxRecDepth 20000 in
theorem ggX5_shrunkAt_X5_withValue : GoodIn wsX5_shrunkAt wsX5_withValue := goodIn_r _ [7, 1, 2, 3, 4, 8, 9, 10] (by decide +kernel) (by decide +kernel)
set_option maxRecDepth 20000 in
theorem gX5_shrunkAt_X5_withValue : GoodIn wsX5_shrunkAt (va_wsS RX5 326 yX5_withValue wsX5_withValue) := goodIn_app (goodIn_of _ (by decide +kernel)) ggX5_shrunkAt_X5_withValue
set_option maxRecDepth 20000 in
theorem ggX5_shrunkAt_X5_resultOf : GoodIn wsX5_shrunkAt wsX5_resultOf := goodIn_r _ [14, 15, 16, 17, 18, 19, 20, 21, 22, 23, 24, 25, 26, 27, 28, 29, 30, 31, 32, 3, 33, 34, 35, 36, 37, 38, 39, 40, 2, 4, 41, 42, 43, 44, 45, 46, 47, 48, 49, 50, 51, 52, 53, 54, 55, 56, 57, 58, 59, 60, 61, 62, 63, 64, 65, 66, 67] (by decide +kernel) (by decide +kernel)
set_option maxRecDepth 20000 in
theorem gX5_shrunkAt_X5_resultOf : GoodIn wsX5_shrunkAt (wsV RX5 77 RX5 yX5_resultOf wsX5_resultOf) := goodIn_app (goodIn_of _ (by decide +kernel)) ggX5_shrunkAt_X5_resultOf
theorem dX5_shrunkAt_0 : decode cX5_shrunkAt 0 = .ok (.iload_n 2, 1) := by decide +kernel
theorem dX5_shrunkAt_1 : decode cX5_shrunkAt 1 = .ok (.iload_n 1, 1) := by decide +kernel
theorem dX5_shrunkAt_2 : decode cX5_shrunkAt 2 = .ok (.invokestatic 323, 3) := by decide +kernel
theorem dX5_shrunkAt_5 : decode cX5_shrunkAt 5 = .ok (.istore 4, 2) := by decide +kernel
theorem dX5_shrunkAt_7 : decode cX5_shrunkAt 7 = .ok (.iconst 0, 1) := by decide +kernel
theorem dX5_shrunkAt_8 : decode cX5_shrunkAt 8 = .ok (.istore 5, 2) := by decide +kernel
theorem dX5_shrunkAt_10 : decode cX5_shrunkAt 10 = .ok (.iload 5, 2) := by decide +kernel
theorem dX5_shrunkAt_12 : decode cX5_shrunkAt 12 = .ok (.iload 4, 2) := by decide +kernel
theorem dX5_shrunkAt_14 : decode cX5_shrunkAt 14 = .ok (.if_icmp .ge 31, 3) := by decide +kernel
theorem dX5_shrunkAt_17 : decode cX5_shrunkAt 17 = .ok (.iload_n 2, 1) := by decide +kernel
theorem dX5_shrunkAt_18 : decode cX5_shrunkAt 18 = .ok (.iload_n 1, 1) := by decide +kernel
theorem dX5_shrunkAt_19 : decode cX5_shrunkAt 19 = .ok (.iload 5, 2) := by decide +kernel
theorem dX5_shrunkAt_21 : decode cX5_shrunkAt 21 = .ok (.invokestatic 326, 3) := by decide +kernel
theorem dX5_shrunkAt_24 : decode cX5_shrunkAt 24 = .ok (.istore 6, 2) := by decide +kernel
theorem dX5_shrunkAt_26 : decode cX5_shrunkAt 26 = .ok (.aload_n 0, 1) := by decide +kernel
theorem dX5_shrunkAt_27 : decode cX5_shrunkAt 27 = .ok (.iload 6, 2) := by decide +kernel
theorem dX5_shrunkAt_29 : decode cX5_shrunkAt 29 = .ok (.invokevirtual 77, 3) := by decide +kernel
theorem dX5_shrunkAt_32 : decode cX5_shrunkAt 32 = .ok (.iload_n 3, 1) := by decide +kernel
theorem dX5_shrunkAt_33 : decode cX5_shrunkAt 33 = .ok (.if_icmp .ne 6, 3) := by decide +kernel
theorem dX5_shrunkAt_36 : decode cX5_shrunkAt 36 = .ok (.iload 6, 2) := by decide +kernel
theorem dX5_shrunkAt_38 : decode cX5_shrunkAt 38 = .ok (.ireturn, 1) := by decide +kernel
theorem dX5_shrunkAt_39 : decode cX5_shrunkAt 39 = .ok (.iinc 5 1, 3) := by decide +kernel
theorem dX5_shrunkAt_42 : decode cX5_shrunkAt 42 = .ok (.goto (-32), 3) := by decide +kernel
theorem dX5_shrunkAt_45 : decode cX5_shrunkAt 45 = .ok (.iload_n 2, 1) := by decide +kernel
theorem dX5_shrunkAt_46 : decode cX5_shrunkAt 46 = .ok (.ireturn, 1) := by decide +kernel
set_option maxRecDepth 20000 in
theorem ggX5_fewestFrom_X5_fewestFrom : GoodIn wsX5_fewestFrom wsX5_fewestFrom := goodIn_r _ [0, 1, 2, 3, 4, 5, 6, 7, 8] (by decide +kernel) (by decide +kernel)
set_option maxRecDepth 20000 in
theorem gX5_fewestFrom_X5_fewestFrom : GoodIn wsX5_fewestFrom (va_wsS RX5 251 yX5_fewestFrom wsX5_fewestFrom) := goodIn_app (goodIn_of _ (by decide +kernel)) ggX5_fewestFrom_X5_fewestFrom
theorem dX5_fewestFrom_0 : decode cX5_fewestFrom 0 = .ok (.lload_n 3, 1) := by decide +kernel
theorem dX5_fewestFrom_1 : decode cX5_fewestFrom 1 = .ok (.lconst 0, 1) := by decide +kernel
theorem dX5_fewestFrom_2 : decode cX5_fewestFrom 2 = .ok (.lcmp, 1) := by decide +kernel
theorem dX5_fewestFrom_3 : decode cX5_fewestFrom 3 = .ok (.ifCond .ne 11, 3) := by decide +kernel
theorem dX5_fewestFrom_6 : decode cX5_fewestFrom 6 = .ok (.iload 5, 2) := by decide +kernel
theorem dX5_fewestFrom_8 : decode cX5_fewestFrom 8 = .ok (.iload 6, 2) := by decide +kernel
theorem dX5_fewestFrom_10 : decode cX5_fewestFrom 10 = .ok (.invokestatic 329, 3) := by decide +kernel
theorem dX5_fewestFrom_13 : decode cX5_fewestFrom 13 = .ok (.ireturn, 1) := by decide +kernel
theorem dX5_fewestFrom_14 : decode cX5_fewestFrom 14 = .ok (.iload_n 2, 1) := by decide +kernel
theorem dX5_fewestFrom_15 : decode cX5_fewestFrom 15 = .ok (.iload_n 1, 1) := by decide +kernel
theorem dX5_fewestFrom_16 : decode cX5_fewestFrom 16 = .ok (.if_icmp .ge 18, 3) := by decide +kernel
theorem dX5_fewestFrom_19 : decode cX5_fewestFrom 19 = .ok (.iload_n 2, 1) := by decide +kernel
theorem dX5_fewestFrom_20 : decode cX5_fewestFrom 20 = .ok (.bipush 12, 2) := by decide +kernel
theorem dX5_fewestFrom_22 : decode cX5_fewestFrom 22 = .ok (.if_icmp .ge 12, 3) := by decide +kernel
theorem dX5_fewestFrom_25 : decode cX5_fewestFrom 25 = .ok (.iload 5, 2) := by decide +kernel
theorem dX5_fewestFrom_27 : decode cX5_fewestFrom 27 = .ok (.iconst 1, 1) := by decide +kernel
theorem dX5_fewestFrom_28 : decode cX5_fewestFrom 28 = .ok (.iadd, 1) := by decide +kernel
theorem dX5_fewestFrom_29 : decode cX5_fewestFrom 29 = .ok (.iload 6, 2) := by decide +kernel
theorem dX5_fewestFrom_31 : decode cX5_fewestFrom 31 = .ok (.if_icmp .lt 6, 3) := by decide +kernel
theorem dX5_fewestFrom_34 : decode cX5_fewestFrom 34 = .ok (.iload 6, 2) := by decide +kernel
theorem dX5_fewestFrom_36 : decode cX5_fewestFrom 36 = .ok (.ireturn, 1) := by decide +kernel
theorem dX5_fewestFrom_37 : decode cX5_fewestFrom 37 = .ok (.iload 6, 2) := by decide +kernel
theorem dX5_fewestFrom_39 : decode cX5_fewestFrom 39 = .ok (.istore 7, 2) := by decide +kernel
theorem dX5_fewestFrom_41 : decode cX5_fewestFrom 41 = .ok (.aload_n 0, 1) := by decide +kernel
theorem dX5_fewestFrom_42 : decode cX5_fewestFrom 42 = .ok (.iload_n 2, 1) := by decide +kernel
theorem dX5_fewestFrom_43 : decode cX5_fewestFrom 43 = .ok (.laload, 1) := by decide +kernel
theorem dX5_fewestFrom_44 : decode cX5_fewestFrom 44 = .ok (.lload_n 3, 1) := by decide +kernel
theorem dX5_fewestFrom_45 : decode cX5_fewestFrom 45 = .ok (.land, 1) := by decide +kernel
theorem dX5_fewestFrom_46 : decode cX5_fewestFrom 46 = .ok (.lconst 0, 1) := by decide +kernel
theorem dX5_fewestFrom_47 : decode cX5_fewestFrom 47 = .ok (.lcmp, 1) := by decide +kernel
theorem dX5_fewestFrom_48 : decode cX5_fewestFrom 48 = .ok (.ifCond .eq 28, 3) := by decide +kernel
theorem dX5_fewestFrom_51 : decode cX5_fewestFrom 51 = .ok (.aload_n 0, 1) := by decide +kernel
theorem dX5_fewestFrom_52 : decode cX5_fewestFrom 52 = .ok (.iload_n 1, 1) := by decide +kernel
theorem dX5_fewestFrom_53 : decode cX5_fewestFrom 53 = .ok (.iload_n 2, 1) := by decide +kernel
theorem dX5_fewestFrom_54 : decode cX5_fewestFrom 54 = .ok (.iconst 1, 1) := by decide +kernel
theorem dX5_fewestFrom_55 : decode cX5_fewestFrom 55 = .ok (.iadd, 1) := by decide +kernel
theorem dX5_fewestFrom_56 : decode cX5_fewestFrom 56 = .ok (.lload_n 3, 1) := by decide +kernel
theorem dX5_fewestFrom_57 : decode cX5_fewestFrom 57 = .ok (.aload_n 0, 1) := by decide +kernel
theorem dX5_fewestFrom_58 : decode cX5_fewestFrom 58 = .ok (.iload_n 2, 1) := by decide +kernel
theorem dX5_fewestFrom_59 : decode cX5_fewestFrom 59 = .ok (.laload, 1) := by decide +kernel
theorem dX5_fewestFrom_60 : decode cX5_fewestFrom 60 = .ok (.ldc2_w 238, 3) := by decide +kernel
theorem dX5_fewestFrom_63 : decode cX5_fewestFrom 63 = .ok (.lxor, 1) := by decide +kernel
theorem dX5_fewestFrom_64 : decode cX5_fewestFrom 64 = .ok (.land, 1) := by decide +kernel
theorem dX5_fewestFrom_65 : decode cX5_fewestFrom 65 = .ok (.iload 5, 2) := by decide +kernel
theorem dX5_fewestFrom_67 : decode cX5_fewestFrom 67 = .ok (.iconst 1, 1) := by decide +kernel
theorem dX5_fewestFrom_68 : decode cX5_fewestFrom 68 = .ok (.iadd, 1) := by decide +kernel
theorem dX5_fewestFrom_69 : decode cX5_fewestFrom 69 = .ok (.iload 7, 2) := by decide +kernel
theorem dX5_fewestFrom_71 : decode cX5_fewestFrom 71 = .ok (.invokestatic 251, 3) := by decide +kernel
theorem dX5_fewestFrom_74 : decode cX5_fewestFrom 74 = .ok (.istore 7, 2) := by decide +kernel
theorem dX5_fewestFrom_76 : decode cX5_fewestFrom 76 = .ok (.aload_n 0, 1) := by decide +kernel
theorem dX5_fewestFrom_77 : decode cX5_fewestFrom 77 = .ok (.iload_n 1, 1) := by decide +kernel
theorem dX5_fewestFrom_78 : decode cX5_fewestFrom 78 = .ok (.iload_n 2, 1) := by decide +kernel
theorem dX5_fewestFrom_79 : decode cX5_fewestFrom 79 = .ok (.iconst 1, 1) := by decide +kernel
theorem dX5_fewestFrom_80 : decode cX5_fewestFrom 80 = .ok (.iadd, 1) := by decide +kernel
theorem dX5_fewestFrom_81 : decode cX5_fewestFrom 81 = .ok (.lload_n 3, 1) := by decide +kernel
theorem dX5_fewestFrom_82 : decode cX5_fewestFrom 82 = .ok (.iload 5, 2) := by decide +kernel
theorem dX5_fewestFrom_84 : decode cX5_fewestFrom 84 = .ok (.iload 7, 2) := by decide +kernel
theorem dX5_fewestFrom_86 : decode cX5_fewestFrom 86 = .ok (.invokestatic 251, 3) := by decide +kernel
theorem dX5_fewestFrom_89 : decode cX5_fewestFrom 89 = .ok (.ireturn, 1) := by decide +kernel
set_option maxRecDepth 20000 in
theorem ggX5_checkNode_X5_isNode : GoodIn wsX5_checkNode wsX5_isNode := goodIn_r _ [6] (by decide +kernel) (by decide +kernel)
set_option maxRecDepth 20000 in
theorem gX5_checkNode_X5_isNode : GoodIn wsX5_checkNode (va_wsS RX5 334 yX5_isNode wsX5_isNode) := goodIn_app (goodIn_of _ (by decide +kernel)) ggX5_checkNode_X5_isNode
theorem dX5_checkNode_0 : decode cX5_checkNode 0 = .ok (.iload_n 0, 1) := by decide +kernel
theorem dX5_checkNode_1 : decode cX5_checkNode 1 = .ok (.invokestatic 334, 3) := by decide +kernel
theorem dX5_checkNode_4 : decode cX5_checkNode 4 = .ok (.ifCond .ne 14, 3) := by decide +kernel
theorem dX5_checkNode_7 : decode cX5_checkNode 7 = .ok (.new 89, 3) := by decide +kernel
theorem dX5_checkNode_10 : decode cX5_checkNode 10 = .ok (.dup, 1) := by decide +kernel
theorem dX5_checkNode_11 : decode cX5_checkNode 11 = .ok (.ldc_w 337, 3) := by decide +kernel
theorem dX5_checkNode_14 : decode cX5_checkNode 14 = .ok (.invokespecial 93, 3) := by decide +kernel
theorem dX5_checkNode_17 : decode cX5_checkNode 17 = .ok (.athrow, 1) := by decide +kernel
theorem dX5_checkNode_18 : decode cX5_checkNode 18 = .ok (.return_, 1) := by decide +kernel
set_option maxRecDepth 20000 in
theorem ggX5_checkTarget_X5_isNode : GoodIn wsX5_checkTarget wsX5_isNode := goodIn_r _ [6] (by decide +kernel) (by decide +kernel)
set_option maxRecDepth 20000 in
theorem gX5_checkTarget_X5_isNode : GoodIn wsX5_checkTarget (va_wsS RX5 334 yX5_isNode wsX5_isNode) := goodIn_app (goodIn_of _ (by decide +kernel)) ggX5_checkTarget_X5_isNode
theorem dX5_checkTarget_0 : decode cX5_checkTarget 0 = .ok (.iload_n 0, 1) := by decide +kernel
theorem dX5_checkTarget_1 : decode cX5_checkTarget 1 = .ok (.iconst (-1), 1) := by decide +kernel
theorem dX5_checkTarget_2 : decode cX5_checkTarget 2 = .ok (.if_icmp .eq 21, 3) := by decide +kernel
theorem dX5_checkTarget_5 : decode cX5_checkTarget 5 = .ok (.iload_n 0, 1) := by decide +kernel
theorem dX5_checkTarget_6 : decode cX5_checkTarget 6 = .ok (.invokestatic 334, 3) := by decide +kernel
theorem dX5_checkTarget_9 : decode cX5_checkTarget 9 = .ok (.ifCond .ne 14, 3) := by decide +kernel
theorem dX5_checkTarget_12 : decode cX5_checkTarget 12 = .ok (.new 89, 3) := by decide +kernel
theorem dX5_checkTarget_15 : decode cX5_checkTarget 15 = .ok (.dup, 1) := by decide +kernel
theorem dX5_checkTarget_16 : decode cX5_checkTarget 16 = .ok (.ldc_w 339, 3) := by decide +kernel
theorem dX5_checkTarget_19 : decode cX5_checkTarget 19 = .ok (.invokespecial 93, 3) := by decide +kernel
theorem dX5_checkTarget_22 : decode cX5_checkTarget 22 = .ok (.athrow, 1) := by decide +kernel
theorem dX5_checkTarget_23 : decode cX5_checkTarget 23 = .ok (.return_, 1) := by decide +kernel
theorem dX5_checkEdge_0 : decode cX5_checkEdge 0 = .ok (.iload_n 0, 1) := by decide +kernel
theorem dX5_checkEdge_1 : decode cX5_checkEdge 1 = .ok (.ifCond .lt 9, 3) := by decide +kernel
theorem dX5_checkEdge_4 : decode cX5_checkEdge 4 = .ok (.iload_n 0, 1) := by decide +kernel
theorem dX5_checkEdge_5 : decode cX5_checkEdge 5 = .ok (.bipush 24, 2) := by decide +kernel
theorem dX5_checkEdge_7 : decode cX5_checkEdge 7 = .ok (.if_icmp .lt 14, 3) := by decide +kernel
theorem dX5_checkEdge_10 : decode cX5_checkEdge 10 = .ok (.new 89, 3) := by decide +kernel
theorem dX5_checkEdge_13 : decode cX5_checkEdge 13 = .ok (.dup, 1) := by decide +kernel
theorem dX5_checkEdge_14 : decode cX5_checkEdge 14 = .ok (.ldc_w 341, 3) := by decide +kernel
theorem dX5_checkEdge_17 : decode cX5_checkEdge 17 = .ok (.invokespecial 93, 3) := by decide +kernel
theorem dX5_checkEdge_20 : decode cX5_checkEdge 20 = .ok (.athrow, 1) := by decide +kernel
theorem dX5_checkEdge_21 : decode cX5_checkEdge 21 = .ok (.return_, 1) := by decide +kernel
theorem dX5_checkSlot_0 : decode cX5_checkSlot 0 = .ok (.iload_n 0, 1) := by decide +kernel
theorem dX5_checkSlot_1 : decode cX5_checkSlot 1 = .ok (.ifCond .lt 8, 3) := by decide +kernel
theorem dX5_checkSlot_4 : decode cX5_checkSlot 4 = .ok (.iload_n 0, 1) := by decide +kernel
theorem dX5_checkSlot_5 : decode cX5_checkSlot 5 = .ok (.iconst 4, 1) := by decide +kernel
theorem dX5_checkSlot_6 : decode cX5_checkSlot 6 = .ok (.if_icmp .lt 14, 3) := by decide +kernel
theorem dX5_checkSlot_9 : decode cX5_checkSlot 9 = .ok (.new 89, 3) := by decide +kernel
theorem dX5_checkSlot_12 : decode cX5_checkSlot 12 = .ok (.dup, 1) := by decide +kernel
theorem dX5_checkSlot_13 : decode cX5_checkSlot 13 = .ok (.ldc_w 343, 3) := by decide +kernel
theorem dX5_checkSlot_16 : decode cX5_checkSlot 16 = .ok (.invokespecial 93, 3) := by decide +kernel
theorem dX5_checkSlot_19 : decode cX5_checkSlot 19 = .ok (.athrow, 1) := by decide +kernel
theorem dX5_checkSlot_20 : decode cX5_checkSlot 20 = .ok (.return_, 1) := by decide +kernel
theorem dX5_checkQuestion_0 : decode cX5_checkQuestion 0 = .ok (.iload_n 0, 1) := by decide +kernel
theorem dX5_checkQuestion_1 : decode cX5_checkQuestion 1 = .ok (.ifCond .lt 8, 3) := by decide +kernel
theorem dX5_checkQuestion_4 : decode cX5_checkQuestion 4 = .ok (.iload_n 0, 1) := by decide +kernel
theorem dX5_checkQuestion_5 : decode cX5_checkQuestion 5 = .ok (.iconst 2, 1) := by decide +kernel
theorem dX5_checkQuestion_6 : decode cX5_checkQuestion 6 = .ok (.if_icmp .le 14, 3) := by decide +kernel
theorem dX5_checkQuestion_9 : decode cX5_checkQuestion 9 = .ok (.new 117, 3) := by decide +kernel
theorem dX5_checkQuestion_12 : decode cX5_checkQuestion 12 = .ok (.dup, 1) := by decide +kernel
theorem dX5_checkQuestion_13 : decode cX5_checkQuestion 13 = .ok (.ldc_w 345, 3) := by decide +kernel
theorem dX5_checkQuestion_16 : decode cX5_checkQuestion 16 = .ok (.invokespecial 121, 3) := by decide +kernel
theorem dX5_checkQuestion_19 : decode cX5_checkQuestion 19 = .ok (.athrow, 1) := by decide +kernel
theorem dX5_checkQuestion_20 : decode cX5_checkQuestion 20 = .ok (.iload_n 1, 1) := by decide +kernel
theorem dX5_checkQuestion_21 : decode cX5_checkQuestion 21 = .ok (.ifCond .lt 9, 3) := by decide +kernel
theorem dX5_checkQuestion_24 : decode cX5_checkQuestion 24 = .ok (.iload_n 1, 1) := by decide +kernel
theorem dX5_checkQuestion_25 : decode cX5_checkQuestion 25 = .ok (.bipush 10, 2) := by decide +kernel
theorem dX5_checkQuestion_27 : decode cX5_checkQuestion 27 = .ok (.if_icmp .lt 14, 3) := by decide +kernel
theorem dX5_checkQuestion_30 : decode cX5_checkQuestion 30 = .ok (.new 117, 3) := by decide +kernel
theorem dX5_checkQuestion_33 : decode cX5_checkQuestion 33 = .ok (.dup, 1) := by decide +kernel
theorem dX5_checkQuestion_34 : decode cX5_checkQuestion 34 = .ok (.ldc_w 347, 3) := by decide +kernel
theorem dX5_checkQuestion_37 : decode cX5_checkQuestion 37 = .ok (.invokespecial 121, 3) := by decide +kernel
theorem dX5_checkQuestion_40 : decode cX5_checkQuestion 40 = .ok (.athrow, 1) := by decide +kernel
theorem dX5_checkQuestion_41 : decode cX5_checkQuestion 41 = .ok (.return_, 1) := by decide +kernel
theorem dX5_checkCase_0 : decode cX5_checkCase 0 = .ok (.iload_n 0, 1) := by decide +kernel
theorem dX5_checkCase_1 : decode cX5_checkCase 1 = .ok (.ifCond .lt 10, 3) := by decide +kernel
theorem dX5_checkCase_4 : decode cX5_checkCase 4 = .ok (.iload_n 0, 1) := by decide +kernel
theorem dX5_checkCase_5 : decode cX5_checkCase 5 = .ok (.sipush 10000, 3) := by decide +kernel
theorem dX5_checkCase_8 : decode cX5_checkCase 8 = .ok (.if_icmp .lt 14, 3) := by decide +kernel
theorem dX5_checkCase_11 : decode cX5_checkCase 11 = .ok (.new 117, 3) := by decide +kernel
theorem dX5_checkCase_14 : decode cX5_checkCase 14 = .ok (.dup, 1) := by decide +kernel
theorem dX5_checkCase_15 : decode cX5_checkCase 15 = .ok (.ldc_w 349, 3) := by decide +kernel
theorem dX5_checkCase_18 : decode cX5_checkCase 18 = .ok (.invokespecial 121, 3) := by decide +kernel
theorem dX5_checkCase_21 : decode cX5_checkCase 21 = .ok (.athrow, 1) := by decide +kernel
theorem dX5_checkCase_22 : decode cX5_checkCase 22 = .ok (.return_, 1) := by decide +kernel
theorem dX5_checkWeight_0 : decode cX5_checkWeight 0 = .ok (.iload_n 0, 1) := by decide +kernel
theorem dX5_checkWeight_1 : decode cX5_checkWeight 1 = .ok (.ifCond .lt 9, 3) := by decide +kernel
theorem dX5_checkWeight_4 : decode cX5_checkWeight 4 = .ok (.iload_n 0, 1) := by decide +kernel
theorem dX5_checkWeight_5 : decode cX5_checkWeight 5 = .ok (.bipush 9, 2) := by decide +kernel
theorem dX5_checkWeight_7 : decode cX5_checkWeight 7 = .ok (.if_icmp .le 14, 3) := by decide +kernel
theorem dX5_checkWeight_10 : decode cX5_checkWeight 10 = .ok (.new 117, 3) := by decide +kernel
theorem dX5_checkWeight_13 : decode cX5_checkWeight 13 = .ok (.dup, 1) := by decide +kernel
theorem dX5_checkWeight_14 : decode cX5_checkWeight 14 = .ok (.ldc_w 351, 3) := by decide +kernel
theorem dX5_checkWeight_17 : decode cX5_checkWeight 17 = .ok (.invokespecial 121, 3) := by decide +kernel
theorem dX5_checkWeight_20 : decode cX5_checkWeight 20 = .ok (.athrow, 1) := by decide +kernel
theorem dX5_checkWeight_21 : decode cX5_checkWeight 21 = .ok (.return_, 1) := by decide +kernel
theorem dX5_checkRoom_0 : decode cX5_checkRoom 0 = .ok (.aload_n 0, 1) := by decide +kernel
theorem dX5_checkRoom_1 : decode cX5_checkRoom 1 = .ok (.getfield 33, 3) := by decide +kernel
theorem dX5_checkRoom_4 : decode cX5_checkRoom 4 = .ok (.getfield 151, 3) := by decide +kernel
theorem dX5_checkRoom_7 : decode cX5_checkRoom 7 = .ok (.bipush 40, 2) := by decide +kernel
theorem dX5_checkRoom_9 : decode cX5_checkRoom 9 = .ok (.if_icmp .lt 14, 3) := by decide +kernel
theorem dX5_checkRoom_12 : decode cX5_checkRoom 12 = .ok (.new 137, 3) := by decide +kernel
theorem dX5_checkRoom_15 : decode cX5_checkRoom 15 = .ok (.dup, 1) := by decide +kernel
theorem dX5_checkRoom_16 : decode cX5_checkRoom 16 = .ok (.ldc_w 353, 3) := by decide +kernel
theorem dX5_checkRoom_19 : decode cX5_checkRoom 19 = .ok (.invokespecial 141, 3) := by decide +kernel
theorem dX5_checkRoom_22 : decode cX5_checkRoom 22 = .ok (.athrow, 1) := by decide +kernel
theorem dX5_checkRoom_23 : decode cX5_checkRoom 23 = .ok (.return_, 1) := by decide +kernel
theorem dX5_checkRelation_0 : decode cX5_checkRelation 0 = .ok (.iload_n 1, 1) := by decide +kernel
theorem dX5_checkRelation_1 : decode cX5_checkRelation 1 = .ok (.ifCond .lt 20, 3) := by decide +kernel
theorem dX5_checkRelation_4 : decode cX5_checkRelation 4 = .ok (.iload_n 1, 1) := by decide +kernel
theorem dX5_checkRelation_5 : decode cX5_checkRelation 5 = .ok (.aload_n 0, 1) := by decide +kernel
theorem dX5_checkRelation_6 : decode cX5_checkRelation 6 = .ok (.getfield 40, 3) := by decide +kernel
theorem dX5_checkRelation_9 : decode cX5_checkRelation 9 = .ok (.getfield 205, 3) := by decide +kernel
theorem dX5_checkRelation_12 : decode cX5_checkRelation 12 = .ok (.if_icmp .ge 9, 3) := by decide +kernel
theorem dX5_checkRelation_15 : decode cX5_checkRelation 15 = .ok (.iload_n 1, 1) := by decide +kernel
theorem dX5_checkRelation_16 : decode cX5_checkRelation 16 = .ok (.bipush 6, 2) := by decide +kernel
theorem dX5_checkRelation_18 : decode cX5_checkRelation 18 = .ok (.if_icmp .lt 14, 3) := by decide +kernel
theorem dX5_checkRelation_21 : decode cX5_checkRelation 21 = .ok (.new 89, 3) := by decide +kernel
theorem dX5_checkRelation_24 : decode cX5_checkRelation 24 = .ok (.dup, 1) := by decide +kernel
theorem dX5_checkRelation_25 : decode cX5_checkRelation 25 = .ok (.ldc_w 355, 3) := by decide +kernel
theorem dX5_checkRelation_28 : decode cX5_checkRelation 28 = .ok (.invokespecial 93, 3) := by decide +kernel
theorem dX5_checkRelation_31 : decode cX5_checkRelation 31 = .ok (.athrow, 1) := by decide +kernel
theorem dX5_checkRelation_32 : decode cX5_checkRelation 32 = .ok (.return_, 1) := by decide +kernel
theorem dX5_isNode_0 : decode cX5_isNode 0 = .ok (.iload_n 0, 1) := by decide +kernel
theorem dX5_isNode_1 : decode cX5_isNode 1 = .ok (.ifCond .lt 13, 3) := by decide +kernel
theorem dX5_isNode_4 : decode cX5_isNode 4 = .ok (.iload_n 0, 1) := by decide +kernel
theorem dX5_isNode_5 : decode cX5_isNode 5 = .ok (.bipush 12, 2) := by decide +kernel
theorem dX5_isNode_7 : decode cX5_isNode 7 = .ok (.if_icmp .ge 7, 3) := by decide +kernel
theorem dX5_isNode_10 : decode cX5_isNode 10 = .ok (.iconst 1, 1) := by decide +kernel
theorem dX5_isNode_11 : decode cX5_isNode 11 = .ok (.goto 4, 3) := by decide +kernel
theorem dX5_isNode_14 : decode cX5_isNode 14 = .ok (.iconst 0, 1) := by decide +kernel
theorem dX5_isNode_15 : decode cX5_isNode 15 = .ok (.ireturn, 1) := by decide +kernel
theorem dX5_valueOf_0 : decode cX5_valueOf 0 = .ok (.iload_n 1, 1) := by decide +kernel
theorem dX5_valueOf_1 : decode cX5_valueOf 1 = .ok (.tableswitch 52 0 2 #[27, 36, 44], 27) := by decide +kernel
theorem dX5_valueOf_28 : decode cX5_valueOf 28 = .ok (.iload_n 0, 1) := by decide +kernel
theorem dX5_valueOf_29 : decode cX5_valueOf 29 = .ok (.sipush 1000, 3) := by decide +kernel
theorem dX5_valueOf_32 : decode cX5_valueOf 32 = .ok (.idiv, 1) := by decide +kernel
theorem dX5_valueOf_33 : decode cX5_valueOf 33 = .ok (.bipush 10, 2) := by decide +kernel
theorem dX5_valueOf_35 : decode cX5_valueOf 35 = .ok (.irem, 1) := by decide +kernel
theorem dX5_valueOf_36 : decode cX5_valueOf 36 = .ok (.ireturn, 1) := by decide +kernel
theorem dX5_valueOf_37 : decode cX5_valueOf 37 = .ok (.iload_n 0, 1) := by decide +kernel
theorem dX5_valueOf_38 : decode cX5_valueOf 38 = .ok (.bipush 100, 2) := by decide +kernel
theorem dX5_valueOf_40 : decode cX5_valueOf 40 = .ok (.idiv, 1) := by decide +kernel
theorem dX5_valueOf_41 : decode cX5_valueOf 41 = .ok (.bipush 10, 2) := by decide +kernel
theorem dX5_valueOf_43 : decode cX5_valueOf 43 = .ok (.irem, 1) := by decide +kernel
theorem dX5_valueOf_44 : decode cX5_valueOf 44 = .ok (.ireturn, 1) := by decide +kernel
theorem dX5_valueOf_45 : decode cX5_valueOf 45 = .ok (.iload_n 0, 1) := by decide +kernel
theorem dX5_valueOf_46 : decode cX5_valueOf 46 = .ok (.bipush 10, 2) := by decide +kernel
theorem dX5_valueOf_48 : decode cX5_valueOf 48 = .ok (.idiv, 1) := by decide +kernel
theorem dX5_valueOf_49 : decode cX5_valueOf 49 = .ok (.bipush 10, 2) := by decide +kernel
theorem dX5_valueOf_51 : decode cX5_valueOf 51 = .ok (.irem, 1) := by decide +kernel
theorem dX5_valueOf_52 : decode cX5_valueOf 52 = .ok (.ireturn, 1) := by decide +kernel
theorem dX5_valueOf_53 : decode cX5_valueOf 53 = .ok (.iload_n 0, 1) := by decide +kernel
theorem dX5_valueOf_54 : decode cX5_valueOf 54 = .ok (.bipush 10, 2) := by decide +kernel
theorem dX5_valueOf_56 : decode cX5_valueOf 56 = .ok (.irem, 1) := by decide +kernel
theorem dX5_valueOf_57 : decode cX5_valueOf 57 = .ok (.ireturn, 1) := by decide +kernel
theorem dX5_placeOf_0 : decode cX5_placeOf 0 = .ok (.iload_n 0, 1) := by decide +kernel
theorem dX5_placeOf_1 : decode cX5_placeOf 1 = .ok (.tableswitch 37 0 2 #[27, 31, 34], 27) := by decide +kernel
theorem dX5_placeOf_28 : decode cX5_placeOf 28 = .ok (.sipush 1000, 3) := by decide +kernel
theorem dX5_placeOf_31 : decode cX5_placeOf 31 = .ok (.ireturn, 1) := by decide +kernel
theorem dX5_placeOf_32 : decode cX5_placeOf 32 = .ok (.bipush 100, 2) := by decide +kernel
theorem dX5_placeOf_34 : decode cX5_placeOf 34 = .ok (.ireturn, 1) := by decide +kernel
theorem dX5_placeOf_35 : decode cX5_placeOf 35 = .ok (.bipush 10, 2) := by decide +kernel
theorem dX5_placeOf_37 : decode cX5_placeOf 37 = .ok (.ireturn, 1) := by decide +kernel
theorem dX5_placeOf_38 : decode cX5_placeOf 38 = .ok (.iconst 1, 1) := by decide +kernel
theorem dX5_placeOf_39 : decode cX5_placeOf 39 = .ok (.ireturn, 1) := by decide +kernel
set_option maxRecDepth 20000 in
theorem ggX5_withValue_X5_valueOf : GoodIn wsX5_withValue wsX5_valueOf := goodIn_r _ [4] (by decide +kernel) (by decide +kernel)
set_option maxRecDepth 20000 in
theorem gX5_withValue_X5_valueOf : GoodIn wsX5_withValue (va_wsS RX5 323 yX5_valueOf wsX5_valueOf) := goodIn_app (goodIn_of _ (by decide +kernel)) ggX5_withValue_X5_valueOf
set_option maxRecDepth 20000 in
theorem ggX5_withValue_X5_placeOf : GoodIn wsX5_withValue wsX5_placeOf := goodIn_r _ [7] (by decide +kernel) (by decide +kernel)
set_option maxRecDepth 20000 in
theorem gX5_withValue_X5_placeOf : GoodIn wsX5_withValue (va_wsS RX5 357 yX5_placeOf wsX5_placeOf) := goodIn_app (goodIn_of _ (by decide +kernel)) ggX5_withValue_X5_placeOf
theorem dX5_withValue_0 : decode cX5_withValue 0 = .ok (.iload_n 0, 1) := by decide +kernel
theorem dX5_withValue_1 : decode cX5_withValue 1 = .ok (.iload_n 2, 1) := by decide +kernel
theorem dX5_withValue_2 : decode cX5_withValue 2 = .ok (.iload_n 0, 1) := by decide +kernel
theorem dX5_withValue_3 : decode cX5_withValue 3 = .ok (.iload_n 1, 1) := by decide +kernel
theorem dX5_withValue_4 : decode cX5_withValue 4 = .ok (.invokestatic 323, 3) := by decide +kernel
theorem dX5_withValue_7 : decode cX5_withValue 7 = .ok (.isub, 1) := by decide +kernel
theorem dX5_withValue_8 : decode cX5_withValue 8 = .ok (.iload_n 1, 1) := by decide +kernel
theorem dX5_withValue_9 : decode cX5_withValue 9 = .ok (.invokestatic 357, 3) := by decide +kernel
theorem dX5_withValue_12 : decode cX5_withValue 12 = .ok (.imul, 1) := by decide +kernel
theorem dX5_withValue_13 : decode cX5_withValue 13 = .ok (.iadd, 1) := by decide +kernel
theorem dX5_withValue_14 : decode cX5_withValue 14 = .ok (.ireturn, 1) := by decide +kernel
theorem dX5_bit_0 : decode cX5_bit 0 = .ok (.lconst 1, 1) := by decide +kernel
theorem dX5_bit_1 : decode cX5_bit 1 = .ok (.iload_n 0, 1) := by decide +kernel
theorem dX5_bit_2 : decode cX5_bit 2 = .ok (.lshl, 1) := by decide +kernel
theorem dX5_bit_3 : decode cX5_bit 3 = .ok (.lreturn, 1) := by decide +kernel
theorem dX5_contains_0 : decode cX5_contains 0 = .ok (.lload_n 0, 1) := by decide +kernel
theorem dX5_contains_1 : decode cX5_contains 1 = .ok (.iload_n 2, 1) := by decide +kernel
theorem dX5_contains_2 : decode cX5_contains 2 = .ok (.lushr, 1) := by decide +kernel
theorem dX5_contains_3 : decode cX5_contains 3 = .ok (.lconst 1, 1) := by decide +kernel
theorem dX5_contains_4 : decode cX5_contains 4 = .ok (.land, 1) := by decide +kernel
theorem dX5_contains_5 : decode cX5_contains 5 = .ok (.lconst 0, 1) := by decide +kernel
theorem dX5_contains_6 : decode cX5_contains 6 = .ok (.lcmp, 1) := by decide +kernel
theorem dX5_contains_7 : decode cX5_contains 7 = .ok (.ifCond .eq 7, 3) := by decide +kernel
theorem dX5_contains_10 : decode cX5_contains 10 = .ok (.iconst 1, 1) := by decide +kernel
theorem dX5_contains_11 : decode cX5_contains 11 = .ok (.goto 4, 3) := by decide +kernel
theorem dX5_contains_14 : decode cX5_contains 14 = .ok (.iconst 0, 1) := by decide +kernel
theorem dX5_contains_15 : decode cX5_contains 15 = .ok (.ireturn, 1) := by decide +kernel
set_option maxRecDepth 20000 in
theorem ggX5_edgesIn_J13_bitCount_95d88 : GoodIn wsX5_edgesIn wsJ13_bitCount_95d88 := goodIn_r _ [5, 6, 7, 8] (by decide +kernel) (by decide +kernel)
set_option maxRecDepth 20000 in
theorem gX5_edgesIn_J13_bitCount_95d88 : GoodIn wsX5_edgesIn (va_wsS RX5 187 yJ13_bitCount_95d88 wsJ13_bitCount_95d88) := goodIn_app (goodIn_of _ (by decide +kernel)) ggX5_edgesIn_J13_bitCount_95d88
theorem dX5_edgesIn_0 : decode cX5_edgesIn 0 = .ok (.lload_n 0, 1) := by decide +kernel
theorem dX5_edgesIn_1 : decode cX5_edgesIn 1 = .ok (.ldc2_w 249, 3) := by decide +kernel
theorem dX5_edgesIn_4 : decode cX5_edgesIn 4 = .ok (.land, 1) := by decide +kernel
theorem dX5_edgesIn_5 : decode cX5_edgesIn 5 = .ok (.invokestatic 187, 3) := by decide +kernel
theorem dX5_edgesIn_8 : decode cX5_edgesIn 8 = .ok (.ireturn, 1) := by decide +kernel
theorem dX5_outcomeOf_0 : decode cX5_outcomeOf 0 = .ok (.iload_n 0, 1) := by decide +kernel
theorem dX5_outcomeOf_1 : decode cX5_outcomeOf 1 = .ok (.bipush 100, 2) := by decide +kernel
theorem dX5_outcomeOf_3 : decode cX5_outcomeOf 3 = .ok (.if_icmp .ge 7, 3) := by decide +kernel
theorem dX5_outcomeOf_6 : decode cX5_outcomeOf 6 = .ok (.iload_n 0, 1) := by decide +kernel
theorem dX5_outcomeOf_7 : decode cX5_outcomeOf 7 = .ok (.goto 10, 3) := by decide +kernel
theorem dX5_outcomeOf_10 : decode cX5_outcomeOf 10 = .ok (.iload_n 0, 1) := by decide +kernel
theorem dX5_outcomeOf_11 : decode cX5_outcomeOf 11 = .ok (.bipush 100, 2) := by decide +kernel
theorem dX5_outcomeOf_13 : decode cX5_outcomeOf 13 = .ok (.isub, 1) := by decide +kernel
theorem dX5_outcomeOf_14 : decode cX5_outcomeOf 14 = .ok (.bipush 24, 2) := by decide +kernel
theorem dX5_outcomeOf_16 : decode cX5_outcomeOf 16 = .ok (.iadd, 1) := by decide +kernel
theorem dX5_outcomeOf_17 : decode cX5_outcomeOf 17 = .ok (.ireturn, 1) := by decide +kernel
theorem dX6_init_0 : decode cX6_init 0 = .ok (.aload_n 0, 1) := by decide +kernel
theorem dX6_init_1 : decode cX6_init 1 = .ok (.invokespecial 1, 3) := by decide +kernel
theorem dX6_init_4 : decode cX6_init 4 = .ok (.aload_n 0, 1) := by decide +kernel
theorem dX6_init_5 : decode cX6_init 5 = .ok (.bipush 12, 2) := by decide +kernel
theorem dX6_init_7 : decode cX6_init 7 = .ok (.newarray .int, 2) := by decide +kernel
theorem dX6_init_9 : decode cX6_init 9 = .ok (.putfield 9, 3) := by decide +kernel
theorem dX6_init_12 : decode cX6_init 12 = .ok (.aload_n 0, 1) := by decide +kernel
theorem dX6_init_13 : decode cX6_init 13 = .ok (.bipush 12, 2) := by decide +kernel
theorem dX6_init_15 : decode cX6_init 15 = .ok (.newarray .int, 2) := by decide +kernel
theorem dX6_init_17 : decode cX6_init 17 = .ok (.putfield 13, 3) := by decide +kernel
theorem dX6_init_20 : decode cX6_init 20 = .ok (.aload_n 0, 1) := by decide +kernel
theorem dX6_init_21 : decode cX6_init 21 = .ok (.bipush 12, 2) := by decide +kernel
theorem dX6_init_23 : decode cX6_init 23 = .ok (.newarray .int, 2) := by decide +kernel
theorem dX6_init_25 : decode cX6_init 25 = .ok (.putfield 16, 3) := by decide +kernel
theorem dX6_init_28 : decode cX6_init 28 = .ok (.aload_n 0, 1) := by decide +kernel
theorem dX6_init_29 : decode cX6_init 29 = .ok (.bipush 24, 2) := by decide +kernel
theorem dX6_init_31 : decode cX6_init 31 = .ok (.newarray .int, 2) := by decide +kernel
theorem dX6_init_33 : decode cX6_init 33 = .ok (.putfield 19, 3) := by decide +kernel
theorem dX6_init_36 : decode cX6_init 36 = .ok (.aload_n 0, 1) := by decide +kernel
theorem dX6_init_37 : decode cX6_init 37 = .ok (.bipush 12, 2) := by decide +kernel
theorem dX6_init_39 : decode cX6_init 39 = .ok (.newarray .boolean, 2) := by decide +kernel
theorem dX6_init_41 : decode cX6_init 41 = .ok (.putfield 22, 3) := by decide +kernel
theorem dX6_init_44 : decode cX6_init 44 = .ok (.aload_n 0, 1) := by decide +kernel
theorem dX6_init_45 : decode cX6_init 45 = .ok (.iconst 1, 1) := by decide +kernel
theorem dX6_init_46 : decode cX6_init 46 = .ok (.putfield 26, 3) := by decide +kernel
theorem dX6_init_49 : decode cX6_init 49 = .ok (.aload_n 0, 1) := by decide +kernel
theorem dX6_init_50 : decode cX6_init 50 = .ok (.bipush 12, 2) := by decide +kernel
theorem dX6_init_52 : decode cX6_init 52 = .ok (.newarray .int, 2) := by decide +kernel
theorem dX6_init_54 : decode cX6_init 54 = .ok (.putfield 30, 3) := by decide +kernel
theorem dX6_init_57 : decode cX6_init 57 = .ok (.aload_n 0, 1) := by decide +kernel
theorem dX6_init_58 : decode cX6_init 58 = .ok (.bipush 40, 2) := by decide +kernel
theorem dX6_init_60 : decode cX6_init 60 = .ok (.newarray .int, 2) := by decide +kernel
theorem dX6_init_62 : decode cX6_init 62 = .ok (.putfield 33, 3) := by decide +kernel
theorem dX6_init_65 : decode cX6_init 65 = .ok (.aload_n 0, 1) := by decide +kernel
theorem dX6_init_66 : decode cX6_init 66 = .ok (.bipush 40, 2) := by decide +kernel
theorem dX6_init_68 : decode cX6_init 68 = .ok (.newarray .int, 2) := by decide +kernel
theorem dX6_init_70 : decode cX6_init 70 = .ok (.putfield 36, 3) := by decide +kernel
theorem dX6_init_73 : decode cX6_init 73 = .ok (.aload_n 0, 1) := by decide +kernel
theorem dX6_init_74 : decode cX6_init 74 = .ok (.bipush 40, 2) := by decide +kernel
theorem dX6_init_76 : decode cX6_init 76 = .ok (.newarray .int, 2) := by decide +kernel
theorem dX6_init_78 : decode cX6_init 78 = .ok (.putfield 39, 3) := by decide +kernel
theorem dX6_init_81 : decode cX6_init 81 = .ok (.aload_n 0, 1) := by decide +kernel
theorem dX6_init_82 : decode cX6_init 82 = .ok (.bipush 40, 2) := by decide +kernel
theorem dX6_init_84 : decode cX6_init 84 = .ok (.newarray .int, 2) := by decide +kernel
theorem dX6_init_86 : decode cX6_init 86 = .ok (.putfield 42, 3) := by decide +kernel
theorem dX6_init_89 : decode cX6_init 89 = .ok (.aload_n 0, 1) := by decide +kernel
theorem dX6_init_90 : decode cX6_init 90 = .ok (.bipush 40, 2) := by decide +kernel
theorem dX6_init_92 : decode cX6_init 92 = .ok (.newarray .boolean, 2) := by decide +kernel
theorem dX6_init_94 : decode cX6_init 94 = .ok (.putfield 45, 3) := by decide +kernel
theorem dX6_init_97 : decode cX6_init 97 = .ok (.aload_n 0, 1) := by decide +kernel
theorem dX6_init_98 : decode cX6_init 98 = .ok (.bipush 6, 2) := by decide +kernel
theorem dX6_init_100 : decode cX6_init 100 = .ok (.newarray .int, 2) := by decide +kernel
theorem dX6_init_102 : decode cX6_init 102 = .ok (.putfield 48, 3) := by decide +kernel
theorem dX6_init_105 : decode cX6_init 105 = .ok (.aload_n 0, 1) := by decide +kernel
theorem dX6_init_106 : decode cX6_init 106 = .ok (.bipush 6, 2) := by decide +kernel
theorem dX6_init_108 : decode cX6_init 108 = .ok (.newarray .int, 2) := by decide +kernel
theorem dX6_init_110 : decode cX6_init 110 = .ok (.putfield 51, 3) := by decide +kernel
theorem dX6_init_113 : decode cX6_init 113 = .ok (.aload_n 0, 1) := by decide +kernel
theorem dX6_init_114 : decode cX6_init 114 = .ok (.bipush 6, 2) := by decide +kernel
theorem dX6_init_116 : decode cX6_init 116 = .ok (.newarray .int, 2) := by decide +kernel
theorem dX6_init_118 : decode cX6_init 118 = .ok (.putfield 54, 3) := by decide +kernel
theorem dX6_init_121 : decode cX6_init 121 = .ok (.iconst 0, 1) := by decide +kernel
theorem dX6_init_122 : decode cX6_init 122 = .ok (.istore_n 1, 1) := by decide +kernel
theorem dX6_init_123 : decode cX6_init 123 = .ok (.iload_n 1, 1) := by decide +kernel
theorem dX6_init_124 : decode cX6_init 124 = .ok (.bipush 24, 2) := by decide +kernel
theorem dX6_init_126 : decode cX6_init 126 = .ok (.if_icmp .ge 16, 3) := by decide +kernel
theorem dX6_init_129 : decode cX6_init 129 = .ok (.aload_n 0, 1) := by decide +kernel
theorem dX6_init_130 : decode cX6_init 130 = .ok (.getfield 19, 3) := by decide +kernel
theorem dX6_init_133 : decode cX6_init 133 = .ok (.iload_n 1, 1) := by decide +kernel
theorem dX6_init_134 : decode cX6_init 134 = .ok (.iconst (-1), 1) := by decide +kernel
theorem dX6_init_135 : decode cX6_init 135 = .ok (.iastore, 1) := by decide +kernel
theorem dX6_init_136 : decode cX6_init 136 = .ok (.iinc 1 1, 3) := by decide +kernel
theorem dX6_init_139 : decode cX6_init 139 = .ok (.goto (-16), 3) := by decide +kernel
theorem dX6_init_142 : decode cX6_init 142 = .ok (.iconst 0, 1) := by decide +kernel
theorem dX6_init_143 : decode cX6_init 143 = .ok (.istore_n 1, 1) := by decide +kernel
theorem dX6_init_144 : decode cX6_init 144 = .ok (.iload_n 1, 1) := by decide +kernel
theorem dX6_init_145 : decode cX6_init 145 = .ok (.aload_n 0, 1) := by decide +kernel
theorem dX6_init_146 : decode cX6_init 146 = .ok (.getfield 30, 3) := by decide +kernel
theorem dX6_init_149 : decode cX6_init 149 = .ok (.arraylength, 1) := by decide +kernel
theorem dX6_init_150 : decode cX6_init 150 = .ok (.if_icmp .ge 16, 3) := by decide +kernel
theorem dX6_init_153 : decode cX6_init 153 = .ok (.aload_n 0, 1) := by decide +kernel
theorem dX6_init_154 : decode cX6_init 154 = .ok (.getfield 30, 3) := by decide +kernel
theorem dX6_init_157 : decode cX6_init 157 = .ok (.iload_n 1, 1) := by decide +kernel
theorem dX6_init_158 : decode cX6_init 158 = .ok (.iconst 1, 1) := by decide +kernel
theorem dX6_init_159 : decode cX6_init 159 = .ok (.iastore, 1) := by decide +kernel
theorem dX6_init_160 : decode cX6_init 160 = .ok (.iinc 1 1, 3) := by decide +kernel
theorem dX6_init_163 : decode cX6_init 163 = .ok (.goto (-19), 3) := by decide +kernel
theorem dX6_init_166 : decode cX6_init 166 = .ok (.return_, 1) := by decide +kernel
theorem dX6_thrown_0 : decode cX6_thrown 0 = .ok (.aload_n 0, 1) := by decide +kernel
theorem dX6_thrown_1 : decode cX6_thrown 1 = .ok (.getfield 57, 3) := by decide +kernel
theorem dX6_thrown_4 : decode cX6_thrown 4 = .ok (.ireturn, 1) := by decide +kernel
theorem dX6_no_0 : decode cX6_no 0 = .ok (.aload_n 0, 1) := by decide +kernel
theorem dX6_no_1 : decode cX6_no 1 = .ok (.iload_n 1, 1) := by decide +kernel
theorem dX6_no_2 : decode cX6_no 2 = .ok (.putfield 57, 3) := by decide +kernel
theorem dX6_no_5 : decode cX6_no 5 = .ok (.iconst 0, 1) := by decide +kernel
theorem dX6_no_6 : decode cX6_no 6 = .ok (.ireturn, 1) := by decide +kernel
theorem dX6_isIn_0 : decode cX6_isIn 0 = .ok (.iload_n 0, 1) := by decide +kernel
theorem dX6_isIn_1 : decode cX6_isIn 1 = .ok (.iload_n 1, 1) := by decide +kernel
theorem dX6_isIn_2 : decode cX6_isIn 2 = .ok (.if_icmp .lt 12, 3) := by decide +kernel
theorem dX6_isIn_5 : decode cX6_isIn 5 = .ok (.iload_n 0, 1) := by decide +kernel
theorem dX6_isIn_6 : decode cX6_isIn 6 = .ok (.iload_n 2, 1) := by decide +kernel
theorem dX6_isIn_7 : decode cX6_isIn 7 = .ok (.if_icmp .gt 7, 3) := by decide +kernel
theorem dX6_isIn_10 : decode cX6_isIn 10 = .ok (.iconst 1, 1) := by decide +kernel
theorem dX6_isIn_11 : decode cX6_isIn 11 = .ok (.goto 4, 3) := by decide +kernel
theorem dX6_isIn_14 : decode cX6_isIn 14 = .ok (.iconst 0, 1) := by decide +kernel
theorem dX6_isIn_15 : decode cX6_isIn 15 = .ok (.ireturn, 1) := by decide +kernel
set_option maxRecDepth 20000 in
theorem ggX6_isNode_X6_isIn : GoodIn wsX6_isNode wsX6_isIn := goodIn_r _ [4] (by decide +kernel) (by decide +kernel)
set_option maxRecDepth 20000 in
theorem gX6_isNode_X6_isIn : GoodIn wsX6_isNode (va_wsS RX6 60 yX6_isIn wsX6_isIn) := goodIn_app (goodIn_of _ (by decide +kernel)) ggX6_isNode_X6_isIn
theorem dX6_isNode_0 : decode cX6_isNode 0 = .ok (.iload_n 0, 1) := by decide +kernel
theorem dX6_isNode_1 : decode cX6_isNode 1 = .ok (.iconst 0, 1) := by decide +kernel
theorem dX6_isNode_2 : decode cX6_isNode 2 = .ok (.bipush 11, 2) := by decide +kernel
theorem dX6_isNode_4 : decode cX6_isNode 4 = .ok (.invokestatic 60, 3) := by decide +kernel
theorem dX6_isNode_7 : decode cX6_isNode 7 = .ok (.ireturn, 1) := by decide +kernel
set_option maxRecDepth 20000 in
theorem ggX6_isSlot_X6_isIn : GoodIn wsX6_isSlot wsX6_isIn := goodIn_r _ [4] (by decide +kernel) (by decide +kernel)
set_option maxRecDepth 20000 in
theorem gX6_isSlot_X6_isIn : GoodIn wsX6_isSlot (va_wsS RX6 60 yX6_isIn wsX6_isIn) := goodIn_app (goodIn_of _ (by decide +kernel)) ggX6_isSlot_X6_isIn
theorem dX6_isSlot_0 : decode cX6_isSlot 0 = .ok (.iload_n 0, 1) := by decide +kernel
theorem dX6_isSlot_1 : decode cX6_isSlot 1 = .ok (.iconst 0, 1) := by decide +kernel
theorem dX6_isSlot_2 : decode cX6_isSlot 2 = .ok (.iconst 3, 1) := by decide +kernel
theorem dX6_isSlot_3 : decode cX6_isSlot 3 = .ok (.invokestatic 60, 3) := by decide +kernel
theorem dX6_isSlot_6 : decode cX6_isSlot 6 = .ok (.ireturn, 1) := by decide +kernel
set_option maxRecDepth 20000 in
theorem ggX6_isCase_X6_isIn : GoodIn wsX6_isCase wsX6_isIn := goodIn_r _ [4] (by decide +kernel) (by decide +kernel)
set_option maxRecDepth 20000 in
theorem gX6_isCase_X6_isIn : GoodIn wsX6_isCase (va_wsS RX6 60 yX6_isIn wsX6_isIn) := goodIn_app (goodIn_of _ (by decide +kernel)) ggX6_isCase_X6_isIn
theorem dX6_isCase_0 : decode cX6_isCase 0 = .ok (.iload_n 0, 1) := by decide +kernel
theorem dX6_isCase_1 : decode cX6_isCase 1 = .ok (.iconst 0, 1) := by decide +kernel
theorem dX6_isCase_2 : decode cX6_isCase 2 = .ok (.sipush 9999, 3) := by decide +kernel
theorem dX6_isCase_5 : decode cX6_isCase 5 = .ok (.invokestatic 60, 3) := by decide +kernel
theorem dX6_isCase_8 : decode cX6_isCase 8 = .ok (.ireturn, 1) := by decide +kernel
theorem dX6_worth_0 : decode cX6_worth 0 = .ok (.iload_n 0, 1) := by decide +kernel
theorem dX6_worth_1 : decode cX6_worth 1 = .ok (.ifCond .ne 9, 3) := by decide +kernel
theorem dX6_worth_4 : decode cX6_worth 4 = .ok (.sipush 1000, 3) := by decide +kernel
theorem dX6_worth_7 : decode cX6_worth 7 = .ok (.goto 24, 3) := by decide +kernel
theorem dX6_worth_10 : decode cX6_worth 10 = .ok (.iload_n 0, 1) := by decide +kernel
theorem dX6_worth_11 : decode cX6_worth 11 = .ok (.iconst 1, 1) := by decide +kernel
theorem dX6_worth_12 : decode cX6_worth 12 = .ok (.if_icmp .ne 8, 3) := by decide +kernel
theorem dX6_worth_15 : decode cX6_worth 15 = .ok (.bipush 100, 2) := by decide +kernel
theorem dX6_worth_17 : decode cX6_worth 17 = .ok (.goto 14, 3) := by decide +kernel
theorem dX6_worth_20 : decode cX6_worth 20 = .ok (.iload_n 0, 1) := by decide +kernel
theorem dX6_worth_21 : decode cX6_worth 21 = .ok (.iconst 2, 1) := by decide +kernel
theorem dX6_worth_22 : decode cX6_worth 22 = .ok (.if_icmp .ne 8, 3) := by decide +kernel
theorem dX6_worth_25 : decode cX6_worth 25 = .ok (.bipush 10, 2) := by decide +kernel
theorem dX6_worth_27 : decode cX6_worth 27 = .ok (.goto 4, 3) := by decide +kernel
theorem dX6_worth_30 : decode cX6_worth 30 = .ok (.iconst 1, 1) := by decide +kernel
theorem dX6_worth_31 : decode cX6_worth 31 = .ok (.ireturn, 1) := by decide +kernel
set_option maxRecDepth 20000 in
theorem ggX6_valueOf_X6_worth : GoodIn wsX6_valueOf wsX6_worth := goodIn_r _ [4] (by decide +kernel) (by decide +kernel)
set_option maxRecDepth 20000 in
theorem gX6_valueOf_X6_worth : GoodIn wsX6_valueOf (va_wsS RX6 64 yX6_worth wsX6_worth) := goodIn_app (goodIn_of _ (by decide +kernel)) ggX6_valueOf_X6_worth
theorem dX6_valueOf_0 : decode cX6_valueOf 0 = .ok (.iload_n 0, 1) := by decide +kernel
theorem dX6_valueOf_1 : decode cX6_valueOf 1 = .ok (.iload_n 1, 1) := by decide +kernel
theorem dX6_valueOf_2 : decode cX6_valueOf 2 = .ok (.invokestatic 64, 3) := by decide +kernel
theorem dX6_valueOf_5 : decode cX6_valueOf 5 = .ok (.idiv, 1) := by decide +kernel
theorem dX6_valueOf_6 : decode cX6_valueOf 6 = .ok (.bipush 10, 2) := by decide +kernel
theorem dX6_valueOf_8 : decode cX6_valueOf 8 = .ok (.irem, 1) := by decide +kernel
theorem dX6_valueOf_9 : decode cX6_valueOf 9 = .ok (.ireturn, 1) := by decide +kernel
set_option maxRecDepth 20000 in
theorem ggX6_with_X6_valueOf : GoodIn wsX6_with wsX6_valueOf := goodIn_r _ [4, 5, 6, 3, 7] (by decide +kernel) (by decide +kernel)
set_option maxRecDepth 20000 in
theorem gX6_with_X6_valueOf : GoodIn wsX6_with (va_wsS RX6 68 yX6_valueOf wsX6_valueOf) := goodIn_app (goodIn_of _ (by decide +kernel)) ggX6_with_X6_valueOf
set_option maxRecDepth 20000 in
theorem ggX6_with_X6_worth : GoodIn wsX6_with wsX6_worth := goodIn_r _ [7] (by decide +kernel) (by decide +kernel)
set_option maxRecDepth 20000 in
theorem gX6_with_X6_worth : GoodIn wsX6_with (va_wsS RX6 64 yX6_worth wsX6_worth) := goodIn_app (goodIn_of _ (by decide +kernel)) ggX6_with_X6_worth
theorem dX6_with_0 : decode cX6_with 0 = .ok (.iload_n 0, 1) := by decide +kernel
theorem dX6_with_1 : decode cX6_with 1 = .ok (.iload_n 2, 1) := by decide +kernel
theorem dX6_with_2 : decode cX6_with 2 = .ok (.iload_n 0, 1) := by decide +kernel
theorem dX6_with_3 : decode cX6_with 3 = .ok (.iload_n 1, 1) := by decide +kernel
theorem dX6_with_4 : decode cX6_with 4 = .ok (.invokestatic 68, 3) := by decide +kernel
theorem dX6_with_7 : decode cX6_with 7 = .ok (.isub, 1) := by decide +kernel
theorem dX6_with_8 : decode cX6_with 8 = .ok (.iload_n 1, 1) := by decide +kernel
theorem dX6_with_9 : decode cX6_with 9 = .ok (.invokestatic 64, 3) := by decide +kernel
theorem dX6_with_12 : decode cX6_with 12 = .ok (.imul, 1) := by decide +kernel
theorem dX6_with_13 : decode cX6_with 13 = .ok (.iadd, 1) := by decide +kernel
theorem dX6_with_14 : decode cX6_with 14 = .ok (.ireturn, 1) := by decide +kernel
set_option maxRecDepth 20000 in
theorem ggX6_edgeOf_X6_valueOf : GoodIn wsX6_edgeOf wsX6_valueOf := goodIn_r _ [7, 8, 9, 6, 10] (by decide +kernel) (by decide +kernel)
set_option maxRecDepth 20000 in
theorem gX6_edgeOf_X6_valueOf : GoodIn wsX6_edgeOf (va_wsS RX6 68 yX6_valueOf wsX6_valueOf) := goodIn_app (goodIn_of _ (by decide +kernel)) ggX6_edgeOf_X6_valueOf
theorem dX6_edgeOf_0 : decode cX6_edgeOf 0 = .ok (.iload_n 2, 1) := by decide +kernel
theorem dX6_edgeOf_1 : decode cX6_edgeOf 1 = .ok (.aload_n 0, 1) := by decide +kernel
theorem dX6_edgeOf_2 : decode cX6_edgeOf 2 = .ok (.getfield 9, 3) := by decide +kernel
theorem dX6_edgeOf_5 : decode cX6_edgeOf 5 = .ok (.iload_n 1, 1) := by decide +kernel
theorem dX6_edgeOf_6 : decode cX6_edgeOf 6 = .ok (.iaload, 1) := by decide +kernel
theorem dX6_edgeOf_7 : decode cX6_edgeOf 7 = .ok (.invokestatic 68, 3) := by decide +kernel
theorem dX6_edgeOf_10 : decode cX6_edgeOf 10 = .ok (.istore_n 3, 1) := by decide +kernel
theorem dX6_edgeOf_11 : decode cX6_edgeOf 11 = .ok (.aload_n 0, 1) := by decide +kernel
theorem dX6_edgeOf_12 : decode cX6_edgeOf 12 = .ok (.getfield 13, 3) := by decide +kernel
theorem dX6_edgeOf_15 : decode cX6_edgeOf 15 = .ok (.iload_n 1, 1) := by decide +kernel
theorem dX6_edgeOf_16 : decode cX6_edgeOf 16 = .ok (.iaload, 1) := by decide +kernel
theorem dX6_edgeOf_17 : decode cX6_edgeOf 17 = .ok (.ifCond .ne 21, 3) := by decide +kernel
theorem dX6_edgeOf_20 : decode cX6_edgeOf 20 = .ok (.iload_n 3, 1) := by decide +kernel
theorem dX6_edgeOf_21 : decode cX6_edgeOf 21 = .ok (.aload_n 0, 1) := by decide +kernel
theorem dX6_edgeOf_22 : decode cX6_edgeOf 22 = .ok (.getfield 16, 3) := by decide +kernel
theorem dX6_edgeOf_25 : decode cX6_edgeOf 25 = .ok (.iload_n 1, 1) := by decide +kernel
theorem dX6_edgeOf_26 : decode cX6_edgeOf 26 = .ok (.iaload, 1) := by decide +kernel
theorem dX6_edgeOf_27 : decode cX6_edgeOf 27 = .ok (.if_icmp .ge 7, 3) := by decide +kernel
theorem dX6_edgeOf_30 : decode cX6_edgeOf 30 = .ok (.iconst 1, 1) := by decide +kernel
theorem dX6_edgeOf_31 : decode cX6_edgeOf 31 = .ok (.goto 50, 3) := by decide +kernel
theorem dX6_edgeOf_34 : decode cX6_edgeOf 34 = .ok (.iconst 0, 1) := by decide +kernel
theorem dX6_edgeOf_35 : decode cX6_edgeOf 35 = .ok (.goto 46, 3) := by decide +kernel
theorem dX6_edgeOf_38 : decode cX6_edgeOf 38 = .ok (.aload_n 0, 1) := by decide +kernel
theorem dX6_edgeOf_39 : decode cX6_edgeOf 39 = .ok (.getfield 13, 3) := by decide +kernel
theorem dX6_edgeOf_42 : decode cX6_edgeOf 42 = .ok (.iload_n 1, 1) := by decide +kernel
theorem dX6_edgeOf_43 : decode cX6_edgeOf 43 = .ok (.iaload, 1) := by decide +kernel
theorem dX6_edgeOf_44 : decode cX6_edgeOf 44 = .ok (.iconst 1, 1) := by decide +kernel
theorem dX6_edgeOf_45 : decode cX6_edgeOf 45 = .ok (.if_icmp .ne 21, 3) := by decide +kernel
theorem dX6_edgeOf_48 : decode cX6_edgeOf 48 = .ok (.iload_n 3, 1) := by decide +kernel
theorem dX6_edgeOf_49 : decode cX6_edgeOf 49 = .ok (.aload_n 0, 1) := by decide +kernel
theorem dX6_edgeOf_50 : decode cX6_edgeOf 50 = .ok (.getfield 16, 3) := by decide +kernel
theorem dX6_edgeOf_53 : decode cX6_edgeOf 53 = .ok (.iload_n 1, 1) := by decide +kernel
theorem dX6_edgeOf_54 : decode cX6_edgeOf 54 = .ok (.iaload, 1) := by decide +kernel
theorem dX6_edgeOf_55 : decode cX6_edgeOf 55 = .ok (.if_icmp .ne 7, 3) := by decide +kernel
theorem dX6_edgeOf_58 : decode cX6_edgeOf 58 = .ok (.iconst 1, 1) := by decide +kernel
theorem dX6_edgeOf_59 : decode cX6_edgeOf 59 = .ok (.goto 22, 3) := by decide +kernel
theorem dX6_edgeOf_62 : decode cX6_edgeOf 62 = .ok (.iconst 0, 1) := by decide +kernel
theorem dX6_edgeOf_63 : decode cX6_edgeOf 63 = .ok (.goto 18, 3) := by decide +kernel
theorem dX6_edgeOf_66 : decode cX6_edgeOf 66 = .ok (.iload_n 3, 1) := by decide +kernel
theorem dX6_edgeOf_67 : decode cX6_edgeOf 67 = .ok (.aload_n 0, 1) := by decide +kernel
theorem dX6_edgeOf_68 : decode cX6_edgeOf 68 = .ok (.getfield 16, 3) := by decide +kernel
theorem dX6_edgeOf_71 : decode cX6_edgeOf 71 = .ok (.iload_n 1, 1) := by decide +kernel
theorem dX6_edgeOf_72 : decode cX6_edgeOf 72 = .ok (.iaload, 1) := by decide +kernel
theorem dX6_edgeOf_73 : decode cX6_edgeOf 73 = .ok (.if_icmp .le 7, 3) := by decide +kernel
theorem dX6_edgeOf_76 : decode cX6_edgeOf 76 = .ok (.iconst 1, 1) := by decide +kernel
theorem dX6_edgeOf_77 : decode cX6_edgeOf 77 = .ok (.goto 4, 3) := by decide +kernel
theorem dX6_edgeOf_80 : decode cX6_edgeOf 80 = .ok (.iconst 0, 1) := by decide +kernel
theorem dX6_edgeOf_81 : decode cX6_edgeOf 81 = .ok (.istore 4, 2) := by decide +kernel
theorem dX6_edgeOf_83 : decode cX6_edgeOf 83 = .ok (.iconst 2, 1) := by decide +kernel
theorem dX6_edgeOf_84 : decode cX6_edgeOf 84 = .ok (.iload_n 1, 1) := by decide +kernel
theorem dX6_edgeOf_85 : decode cX6_edgeOf 85 = .ok (.imul, 1) := by decide +kernel
theorem dX6_edgeOf_86 : decode cX6_edgeOf 86 = .ok (.iload 4, 2) := by decide +kernel
theorem dX6_edgeOf_88 : decode cX6_edgeOf 88 = .ok (.ifCond .eq 7, 3) := by decide +kernel
theorem dX6_edgeOf_91 : decode cX6_edgeOf 91 = .ok (.iconst 0, 1) := by decide +kernel
theorem dX6_edgeOf_92 : decode cX6_edgeOf 92 = .ok (.goto 4, 3) := by decide +kernel
theorem dX6_edgeOf_95 : decode cX6_edgeOf 95 = .ok (.iconst 1, 1) := by decide +kernel
theorem dX6_edgeOf_96 : decode cX6_edgeOf 96 = .ok (.iadd, 1) := by decide +kernel
theorem dX6_edgeOf_97 : decode cX6_edgeOf 97 = .ok (.ireturn, 1) := by decide +kernel
set_option maxRecDepth 20000 in
theorem ggX6_way_X6_edgeOf : GoodIn wsX6_way wsX6_edgeOf := goodIn_r _ [12, 13, 14, 15, 16, 17, 11, 18, 19, 20, 21, 22, 23, 24, 25, 26, 27, 28, 29, 30, 31, 32, 33, 34, 35, 36, 37, 38, 39] (by decide +kernel) (by decide +kernel)
set_option maxRecDepth 20000 in
theorem gX6_way_X6_edgeOf : GoodIn wsX6_way (wsV RX6 72 RX6 yX6_edgeOf wsX6_edgeOf) := goodIn_app (goodIn_of _ (by decide +kernel)) ggX6_way_X6_edgeOf
theorem dX6_way_0 : decode cX6_way 0 = .ok (.bipush 31, 2) := by decide +kernel
theorem dX6_way_2 : decode cX6_way 2 = .ok (.newarray .int, 2) := by decide +kernel
theorem dX6_way_4 : decode cX6_way 4 = .ok (.astore_n 2, 1) := by decide +kernel
theorem dX6_way_5 : decode cX6_way 5 = .ok (.iconst 0, 1) := by decide +kernel
theorem dX6_way_6 : decode cX6_way 6 = .ok (.istore_n 3, 1) := by decide +kernel
theorem dX6_way_7 : decode cX6_way 7 = .ok (.iconst 0, 1) := by decide +kernel
theorem dX6_way_8 : decode cX6_way 8 = .ok (.istore 4, 2) := by decide +kernel
theorem dX6_way_10 : decode cX6_way 10 = .ok (.iload 4, 2) := by decide +kernel
theorem dX6_way_12 : decode cX6_way 12 = .ok (.iconst (-1), 1) := by decide +kernel
theorem dX6_way_13 : decode cX6_way 13 = .ok (.if_icmp .eq 45, 3) := by decide +kernel
theorem dX6_way_16 : decode cX6_way 16 = .ok (.aload_n 0, 1) := by decide +kernel
theorem dX6_way_17 : decode cX6_way 17 = .ok (.getfield 22, 3) := by decide +kernel
theorem dX6_way_20 : decode cX6_way 20 = .ok (.iload 4, 2) := by decide +kernel
theorem dX6_way_22 : decode cX6_way 22 = .ok (.baload, 1) := by decide +kernel
theorem dX6_way_23 : decode cX6_way 23 = .ok (.ifCond .ne 35, 3) := by decide +kernel
theorem dX6_way_26 : decode cX6_way 26 = .ok (.iload_n 3, 1) := by decide +kernel
theorem dX6_way_27 : decode cX6_way 27 = .ok (.bipush 30, 2) := by decide +kernel
theorem dX6_way_29 : decode cX6_way 29 = .ok (.if_icmp .ge 29, 3) := by decide +kernel
theorem dX6_way_32 : decode cX6_way 32 = .ok (.aload_n 2, 1) := by decide +kernel
theorem dX6_way_33 : decode cX6_way 33 = .ok (.iload_n 3, 1) := by decide +kernel
theorem dX6_way_34 : decode cX6_way 34 = .ok (.aload_n 0, 1) := by decide +kernel
theorem dX6_way_35 : decode cX6_way 35 = .ok (.iload 4, 2) := by decide +kernel
theorem dX6_way_37 : decode cX6_way 37 = .ok (.iload_n 1, 1) := by decide +kernel
theorem dX6_way_38 : decode cX6_way 38 = .ok (.invokevirtual 72, 3) := by decide +kernel
theorem dX6_way_41 : decode cX6_way 41 = .ok (.iastore, 1) := by decide +kernel
theorem dX6_way_42 : decode cX6_way 42 = .ok (.aload_n 0, 1) := by decide +kernel
theorem dX6_way_43 : decode cX6_way 43 = .ok (.getfield 19, 3) := by decide +kernel
theorem dX6_way_46 : decode cX6_way 46 = .ok (.aload_n 2, 1) := by decide +kernel
theorem dX6_way_47 : decode cX6_way 47 = .ok (.iload_n 3, 1) := by decide +kernel
theorem dX6_way_48 : decode cX6_way 48 = .ok (.iinc 3 1, 3) := by decide +kernel
theorem dX6_way_51 : decode cX6_way 51 = .ok (.iaload, 1) := by decide +kernel
theorem dX6_way_52 : decode cX6_way 52 = .ok (.iaload, 1) := by decide +kernel
theorem dX6_way_53 : decode cX6_way 53 = .ok (.istore 4, 2) := by decide +kernel
theorem dX6_way_55 : decode cX6_way 55 = .ok (.goto (-45), 3) := by decide +kernel
theorem dX6_way_58 : decode cX6_way 58 = .ok (.iload_n 3, 1) := by decide +kernel
theorem dX6_way_59 : decode cX6_way 59 = .ok (.iconst 1, 1) := by decide +kernel
theorem dX6_way_60 : decode cX6_way 60 = .ok (.iadd, 1) := by decide +kernel
theorem dX6_way_61 : decode cX6_way 61 = .ok (.newarray .int, 2) := by decide +kernel
theorem dX6_way_63 : decode cX6_way 63 = .ok (.astore 5, 2) := by decide +kernel
theorem dX6_way_65 : decode cX6_way 65 = .ok (.aload_n 2, 1) := by decide +kernel
theorem dX6_way_66 : decode cX6_way 66 = .ok (.iconst 0, 1) := by decide +kernel
theorem dX6_way_67 : decode cX6_way 67 = .ok (.aload 5, 2) := by decide +kernel
theorem dX6_way_69 : decode cX6_way 69 = .ok (.iconst 0, 1) := by decide +kernel
theorem dX6_way_70 : decode cX6_way 70 = .ok (.iload_n 3, 1) := by decide +kernel
theorem dX6_way_71 : decode cX6_way 71 = .ok (.invokestatic 75, 3) := by decide +kernel
theorem dX6_way_74 : decode cX6_way 74 = .ok (.aload 5, 2) := by decide +kernel
theorem dX6_way_76 : decode cX6_way 76 = .ok (.iload_n 3, 1) := by decide +kernel
theorem dX6_way_77 : decode cX6_way 77 = .ok (.iload 4, 2) := by decide +kernel
theorem dX6_way_79 : decode cX6_way 79 = .ok (.iconst (-1), 1) := by decide +kernel
theorem dX6_way_80 : decode cX6_way 80 = .ok (.if_icmp .ne 11, 3) := by decide +kernel
theorem dX6_way_83 : decode cX6_way 83 = .ok (.aload_n 2, 1) := by decide +kernel
theorem dX6_way_84 : decode cX6_way 84 = .ok (.iload_n 3, 1) := by decide +kernel
theorem dX6_way_85 : decode cX6_way 85 = .ok (.iconst 1, 1) := by decide +kernel
theorem dX6_way_86 : decode cX6_way 86 = .ok (.isub, 1) := by decide +kernel
theorem dX6_way_87 : decode cX6_way 87 = .ok (.iaload, 1) := by decide +kernel
theorem dX6_way_88 : decode cX6_way 88 = .ok (.goto 23, 3) := by decide +kernel
theorem dX6_way_91 : decode cX6_way 91 = .ok (.bipush 100, 2) := by decide +kernel
theorem dX6_way_93 : decode cX6_way 93 = .ok (.aload_n 0, 1) := by decide +kernel
theorem dX6_way_94 : decode cX6_way 94 = .ok (.getfield 22, 3) := by decide +kernel
theorem dX6_way_97 : decode cX6_way 97 = .ok (.iload 4, 2) := by decide +kernel
theorem dX6_way_99 : decode cX6_way 99 = .ok (.baload, 1) := by decide +kernel
theorem dX6_way_100 : decode cX6_way 100 = .ok (.ifCond .eq 8, 3) := by decide +kernel
theorem dX6_way_103 : decode cX6_way 103 = .ok (.iload 4, 2) := by decide +kernel
theorem dX6_way_105 : decode cX6_way 105 = .ok (.goto 5, 3) := by decide +kernel
theorem dX6_way_108 : decode cX6_way 108 = .ok (.bipush 12, 2) := by decide +kernel
theorem dX6_way_110 : decode cX6_way 110 = .ok (.iadd, 1) := by decide +kernel
theorem dX6_way_111 : decode cX6_way 111 = .ok (.iastore, 1) := by decide +kernel
theorem dX6_way_112 : decode cX6_way 112 = .ok (.aload 5, 2) := by decide +kernel
theorem dX6_way_114 : decode cX6_way 114 = .ok (.areturn, 1) := by decide +kernel
set_option maxRecDepth 20000 in
theorem ggX6_resultOf_X6_way : GoodIn wsX6_resultOf wsX6_way := goodIn_r _ [5, 6, 7, 8, 9, 10, 11, 12, 13, 14, 15, 4, 16, 17, 18, 19, 20, 21, 22, 23, 24, 25, 26, 27, 28, 29, 30, 31, 32, 33, 34, 35, 36, 37, 38, 39, 40, 41, 42, 43] (by decide +kernel) (by decide +kernel)
set_option maxRecDepth 20000 in
theorem gX6_resultOf_X6_way : GoodIn wsX6_resultOf (wsV RX6 81 RX6 yX6_way wsX6_way) := goodIn_app (goodIn_of _ (by decide +kernel)) ggX6_resultOf_X6_way
theorem dX6_resultOf_0 : decode cX6_resultOf 0 = .ok (.aload_n 0, 1) := by decide +kernel
theorem dX6_resultOf_1 : decode cX6_resultOf 1 = .ok (.iload_n 1, 1) := by decide +kernel
theorem dX6_resultOf_2 : decode cX6_resultOf 2 = .ok (.invokevirtual 81, 3) := by decide +kernel
theorem dX6_resultOf_5 : decode cX6_resultOf 5 = .ok (.astore_n 2, 1) := by decide +kernel
theorem dX6_resultOf_6 : decode cX6_resultOf 6 = .ok (.aload_n 2, 1) := by decide +kernel
theorem dX6_resultOf_7 : decode cX6_resultOf 7 = .ok (.aload_n 2, 1) := by decide +kernel
theorem dX6_resultOf_8 : decode cX6_resultOf 8 = .ok (.arraylength, 1) := by decide +kernel
theorem dX6_resultOf_9 : decode cX6_resultOf 9 = .ok (.iconst 1, 1) := by decide +kernel
theorem dX6_resultOf_10 : decode cX6_resultOf 10 = .ok (.isub, 1) := by decide +kernel
theorem dX6_resultOf_11 : decode cX6_resultOf 11 = .ok (.iaload, 1) := by decide +kernel
theorem dX6_resultOf_12 : decode cX6_resultOf 12 = .ok (.ireturn, 1) := by decide +kernel
set_option maxRecDepth 20000 in
theorem ggX6_edgesOf_X6_way : GoodIn wsX6_edgesOf wsX6_way := goodIn_r _ [5, 6, 7, 8, 9, 10, 11, 12, 13, 14, 15, 4, 16, 17, 18, 19, 20, 21, 22, 23, 24, 25, 26, 27, 28, 29, 30, 31, 32, 33, 34, 35, 36, 37, 38, 39, 40, 41, 42, 43] (by decide +kernel) (by decide +kernel)
set_option maxRecDepth 20000 in
theorem gX6_edgesOf_X6_way : GoodIn wsX6_edgesOf (wsV RX6 81 RX6 yX6_way wsX6_way) := goodIn_app (goodIn_of _ (by decide +kernel)) ggX6_edgesOf_X6_way
theorem dX6_edgesOf_0 : decode cX6_edgesOf 0 = .ok (.aload_n 0, 1) := by decide +kernel
theorem dX6_edgesOf_1 : decode cX6_edgesOf 1 = .ok (.iload_n 1, 1) := by decide +kernel
theorem dX6_edgesOf_2 : decode cX6_edgesOf 2 = .ok (.invokevirtual 81, 3) := by decide +kernel
theorem dX6_edgesOf_5 : decode cX6_edgesOf 5 = .ok (.astore_n 2, 1) := by decide +kernel
theorem dX6_edgesOf_6 : decode cX6_edgesOf 6 = .ok (.iconst 0, 1) := by decide +kernel
theorem dX6_edgesOf_7 : decode cX6_edgesOf 7 = .ok (.istore_n 3, 1) := by decide +kernel
theorem dX6_edgesOf_8 : decode cX6_edgesOf 8 = .ok (.iconst 0, 1) := by decide +kernel
theorem dX6_edgesOf_9 : decode cX6_edgesOf 9 = .ok (.istore 4, 2) := by decide +kernel
theorem dX6_edgesOf_11 : decode cX6_edgesOf 11 = .ok (.iload 4, 2) := by decide +kernel
theorem dX6_edgesOf_13 : decode cX6_edgesOf 13 = .ok (.iconst 1, 1) := by decide +kernel
theorem dX6_edgesOf_14 : decode cX6_edgesOf 14 = .ok (.iadd, 1) := by decide +kernel
theorem dX6_edgesOf_15 : decode cX6_edgesOf 15 = .ok (.aload_n 2, 1) := by decide +kernel
theorem dX6_edgesOf_16 : decode cX6_edgesOf 16 = .ok (.arraylength, 1) := by decide +kernel
theorem dX6_edgesOf_17 : decode cX6_edgesOf 17 = .ok (.if_icmp .ge 18, 3) := by decide +kernel
theorem dX6_edgesOf_20 : decode cX6_edgesOf 20 = .ok (.iload_n 3, 1) := by decide +kernel
theorem dX6_edgesOf_21 : decode cX6_edgesOf 21 = .ok (.iconst 1, 1) := by decide +kernel
theorem dX6_edgesOf_22 : decode cX6_edgesOf 22 = .ok (.aload_n 2, 1) := by decide +kernel
theorem dX6_edgesOf_23 : decode cX6_edgesOf 23 = .ok (.iload 4, 2) := by decide +kernel
theorem dX6_edgesOf_25 : decode cX6_edgesOf 25 = .ok (.iaload, 1) := by decide +kernel
theorem dX6_edgesOf_26 : decode cX6_edgesOf 26 = .ok (.ishl, 1) := by decide +kernel
theorem dX6_edgesOf_27 : decode cX6_edgesOf 27 = .ok (.ior, 1) := by decide +kernel
theorem dX6_edgesOf_28 : decode cX6_edgesOf 28 = .ok (.istore_n 3, 1) := by decide +kernel
theorem dX6_edgesOf_29 : decode cX6_edgesOf 29 = .ok (.iinc 4 1, 3) := by decide +kernel
theorem dX6_edgesOf_32 : decode cX6_edgesOf 32 = .ok (.goto (-21), 3) := by decide +kernel
theorem dX6_edgesOf_35 : decode cX6_edgesOf 35 = .ok (.iload_n 3, 1) := by decide +kernel
theorem dX6_edgesOf_36 : decode cX6_edgesOf 36 = .ok (.ireturn, 1) := by decide +kernel
theorem dX6_count_0 : decode cX6_count 0 = .ok (.iconst 0, 1) := by decide +kernel
theorem dX6_count_1 : decode cX6_count 1 = .ok (.istore_n 1, 1) := by decide +kernel
theorem dX6_count_2 : decode cX6_count 2 = .ok (.iload_n 0, 1) := by decide +kernel
theorem dX6_count_3 : decode cX6_count 3 = .ok (.istore_n 2, 1) := by decide +kernel
theorem dX6_count_4 : decode cX6_count 4 = .ok (.iload_n 2, 1) := by decide +kernel
theorem dX6_count_5 : decode cX6_count 5 = .ok (.ifCond .le 16, 3) := by decide +kernel
theorem dX6_count_8 : decode cX6_count 8 = .ok (.iload_n 1, 1) := by decide +kernel
theorem dX6_count_9 : decode cX6_count 9 = .ok (.iload_n 2, 1) := by decide +kernel
theorem dX6_count_10 : decode cX6_count 10 = .ok (.iconst 2, 1) := by decide +kernel
theorem dX6_count_11 : decode cX6_count 11 = .ok (.irem, 1) := by decide +kernel
theorem dX6_count_12 : decode cX6_count 12 = .ok (.iadd, 1) := by decide +kernel
theorem dX6_count_13 : decode cX6_count 13 = .ok (.istore_n 1, 1) := by decide +kernel
theorem dX6_count_14 : decode cX6_count 14 = .ok (.iload_n 2, 1) := by decide +kernel
theorem dX6_count_15 : decode cX6_count 15 = .ok (.iconst 2, 1) := by decide +kernel
theorem dX6_count_16 : decode cX6_count 16 = .ok (.idiv, 1) := by decide +kernel
theorem dX6_count_17 : decode cX6_count 17 = .ok (.istore_n 2, 1) := by decide +kernel
theorem dX6_count_18 : decode cX6_count 18 = .ok (.goto (-14), 3) := by decide +kernel
theorem dX6_count_21 : decode cX6_count 21 = .ok (.iload_n 1, 1) := by decide +kernel
theorem dX6_count_22 : decode cX6_count 22 = .ok (.ireturn, 1) := by decide +kernel
set_option maxRecDepth 20000 in
theorem ggX6_isNeeded_X6_keptEdges : GoodIn wsX6_isNeeded wsX6_keptEdges := goodIn_r _ [5, 6, 7, 8, 14, 15, 16, 17, 18, 19, 20, 21, 22, 23, 24, 25, 26, 27, 28, 29, 30, 31] (by decide +kernel) (by decide +kernel)
set_option maxRecDepth 20000 in
theorem gX6_isNeeded_X6_keptEdges : GoodIn wsX6_isNeeded (wsV RX6 85 RX6 yX6_keptEdges wsX6_keptEdges) := goodIn_app (goodIn_of _ (by decide +kernel)) ggX6_isNeeded_X6_keptEdges
set_option maxRecDepth 20000 in
theorem ggX6_isNeeded_X6_hasResult : GoodIn wsX6_isNeeded wsX6_hasResult := goodIn_r _ [12, 6, 7, 13, 14, 15, 16, 17, 18, 19, 20, 21, 22, 23, 24, 25, 26, 27, 28, 29, 30, 31] (by decide +kernel) (by decide +kernel)
set_option maxRecDepth 20000 in
theorem gX6_isNeeded_X6_hasResult : GoodIn wsX6_isNeeded (wsV RX6 88 RX6 yX6_hasResult wsX6_hasResult) := goodIn_app (goodIn_of _ (by decide +kernel)) ggX6_isNeeded_X6_hasResult
theorem dX6_isNeeded_0 : decode cX6_isNeeded 0 = .ok (.iload_n 1, 1) := by decide +kernel
theorem dX6_isNeeded_1 : decode cX6_isNeeded 1 = .ok (.aload_n 0, 1) := by decide +kernel
theorem dX6_isNeeded_2 : decode cX6_isNeeded 2 = .ok (.iload_n 3, 1) := by decide +kernel
theorem dX6_isNeeded_3 : decode cX6_isNeeded 3 = .ok (.invokevirtual 85, 3) := by decide +kernel
theorem dX6_isNeeded_6 : decode cX6_isNeeded 6 = .ok (.iconst (-1), 1) := by decide +kernel
theorem dX6_isNeeded_7 : decode cX6_isNeeded 7 = .ok (.ixor, 1) := by decide +kernel
theorem dX6_isNeeded_8 : decode cX6_isNeeded 8 = .ok (.iand, 1) := by decide +kernel
theorem dX6_isNeeded_9 : decode cX6_isNeeded 9 = .ok (.ifCond .ne 18, 3) := by decide +kernel
theorem dX6_isNeeded_12 : decode cX6_isNeeded 12 = .ok (.iload_n 2, 1) := by decide +kernel
theorem dX6_isNeeded_13 : decode cX6_isNeeded 13 = .ok (.bipush 100, 2) := by decide +kernel
theorem dX6_isNeeded_15 : decode cX6_isNeeded 15 = .ok (.if_icmp .lt 16, 3) := by decide +kernel
theorem dX6_isNeeded_18 : decode cX6_isNeeded 18 = .ok (.aload_n 0, 1) := by decide +kernel
theorem dX6_isNeeded_19 : decode cX6_isNeeded 19 = .ok (.iload_n 2, 1) := by decide +kernel
theorem dX6_isNeeded_20 : decode cX6_isNeeded 20 = .ok (.iload_n 3, 1) := by decide +kernel
theorem dX6_isNeeded_21 : decode cX6_isNeeded 21 = .ok (.invokevirtual 88, 3) := by decide +kernel
theorem dX6_isNeeded_24 : decode cX6_isNeeded 24 = .ok (.ifCond .ne 7, 3) := by decide +kernel
theorem dX6_isNeeded_27 : decode cX6_isNeeded 27 = .ok (.iconst 1, 1) := by decide +kernel
theorem dX6_isNeeded_28 : decode cX6_isNeeded 28 = .ok (.goto 4, 3) := by decide +kernel
theorem dX6_isNeeded_31 : decode cX6_isNeeded 31 = .ok (.iconst 0, 1) := by decide +kernel
theorem dX6_isNeeded_32 : decode cX6_isNeeded 32 = .ok (.ireturn, 1) := by decide +kernel
theorem dX6_keptEdges_0 : decode cX6_keptEdges 0 = .ok (.iconst 0, 1) := by decide +kernel
theorem dX6_keptEdges_1 : decode cX6_keptEdges 1 = .ok (.istore_n 2, 1) := by decide +kernel
theorem dX6_keptEdges_2 : decode cX6_keptEdges 2 = .ok (.iconst 0, 1) := by decide +kernel
theorem dX6_keptEdges_3 : decode cX6_keptEdges 3 = .ok (.istore_n 3, 1) := by decide +kernel
theorem dX6_keptEdges_4 : decode cX6_keptEdges 4 = .ok (.iload_n 3, 1) := by decide +kernel
theorem dX6_keptEdges_5 : decode cX6_keptEdges 5 = .ok (.aload_n 0, 1) := by decide +kernel
theorem dX6_keptEdges_6 : decode cX6_keptEdges 6 = .ok (.getfield 92, 3) := by decide +kernel
theorem dX6_keptEdges_9 : decode cX6_keptEdges 9 = .ok (.if_icmp .ge 36, 3) := by decide +kernel
theorem dX6_keptEdges_12 : decode cX6_keptEdges 12 = .ok (.iload_n 2, 1) := by decide +kernel
theorem dX6_keptEdges_13 : decode cX6_keptEdges 13 = .ok (.aload_n 0, 1) := by decide +kernel
theorem dX6_keptEdges_14 : decode cX6_keptEdges 14 = .ok (.getfield 45, 3) := by decide +kernel
theorem dX6_keptEdges_17 : decode cX6_keptEdges 17 = .ok (.iload_n 3, 1) := by decide +kernel
theorem dX6_keptEdges_18 : decode cX6_keptEdges 18 = .ok (.baload, 1) := by decide +kernel
theorem dX6_keptEdges_19 : decode cX6_keptEdges 19 = .ok (.ifCond .eq 17, 3) := by decide +kernel
theorem dX6_keptEdges_22 : decode cX6_keptEdges 22 = .ok (.iload_n 3, 1) := by decide +kernel
theorem dX6_keptEdges_23 : decode cX6_keptEdges 23 = .ok (.iload_n 1, 1) := by decide +kernel
theorem dX6_keptEdges_24 : decode cX6_keptEdges 24 = .ok (.if_icmp .eq 12, 3) := by decide +kernel
theorem dX6_keptEdges_27 : decode cX6_keptEdges 27 = .ok (.aload_n 0, 1) := by decide +kernel
theorem dX6_keptEdges_28 : decode cX6_keptEdges 28 = .ok (.getfield 39, 3) := by decide +kernel
theorem dX6_keptEdges_31 : decode cX6_keptEdges 31 = .ok (.iload_n 3, 1) := by decide +kernel
theorem dX6_keptEdges_32 : decode cX6_keptEdges 32 = .ok (.iaload, 1) := by decide +kernel
theorem dX6_keptEdges_33 : decode cX6_keptEdges 33 = .ok (.goto 4, 3) := by decide +kernel
theorem dX6_keptEdges_36 : decode cX6_keptEdges 36 = .ok (.iconst 0, 1) := by decide +kernel
theorem dX6_keptEdges_37 : decode cX6_keptEdges 37 = .ok (.ior, 1) := by decide +kernel
theorem dX6_keptEdges_38 : decode cX6_keptEdges 38 = .ok (.istore_n 2, 1) := by decide +kernel
theorem dX6_keptEdges_39 : decode cX6_keptEdges 39 = .ok (.iinc 3 1, 3) := by decide +kernel
theorem dX6_keptEdges_42 : decode cX6_keptEdges 42 = .ok (.goto (-38), 3) := by decide +kernel
theorem dX6_keptEdges_45 : decode cX6_keptEdges 45 = .ok (.iload_n 2, 1) := by decide +kernel
theorem dX6_keptEdges_46 : decode cX6_keptEdges 46 = .ok (.ireturn, 1) := by decide +kernel
theorem dX6_hasResult_0 : decode cX6_hasResult 0 = .ok (.iconst 0, 1) := by decide +kernel
theorem dX6_hasResult_1 : decode cX6_hasResult 1 = .ok (.istore_n 3, 1) := by decide +kernel
theorem dX6_hasResult_2 : decode cX6_hasResult 2 = .ok (.iload_n 3, 1) := by decide +kernel
theorem dX6_hasResult_3 : decode cX6_hasResult 3 = .ok (.aload_n 0, 1) := by decide +kernel
theorem dX6_hasResult_4 : decode cX6_hasResult 4 = .ok (.getfield 92, 3) := by decide +kernel
theorem dX6_hasResult_7 : decode cX6_hasResult 7 = .ok (.if_icmp .ge 35, 3) := by decide +kernel
theorem dX6_hasResult_10 : decode cX6_hasResult 10 = .ok (.aload_n 0, 1) := by decide +kernel
theorem dX6_hasResult_11 : decode cX6_hasResult 11 = .ok (.getfield 45, 3) := by decide +kernel
theorem dX6_hasResult_14 : decode cX6_hasResult 14 = .ok (.iload_n 3, 1) := by decide +kernel
theorem dX6_hasResult_15 : decode cX6_hasResult 15 = .ok (.baload, 1) := by decide +kernel
theorem dX6_hasResult_16 : decode cX6_hasResult 16 = .ok (.ifCond .eq 20, 3) := by decide +kernel
theorem dX6_hasResult_19 : decode cX6_hasResult 19 = .ok (.iload_n 3, 1) := by decide +kernel
theorem dX6_hasResult_20 : decode cX6_hasResult 20 = .ok (.iload_n 2, 1) := by decide +kernel
theorem dX6_hasResult_21 : decode cX6_hasResult 21 = .ok (.if_icmp .eq 15, 3) := by decide +kernel
theorem dX6_hasResult_24 : decode cX6_hasResult 24 = .ok (.aload_n 0, 1) := by decide +kernel
theorem dX6_hasResult_25 : decode cX6_hasResult 25 = .ok (.getfield 42, 3) := by decide +kernel
theorem dX6_hasResult_28 : decode cX6_hasResult 28 = .ok (.iload_n 3, 1) := by decide +kernel
theorem dX6_hasResult_29 : decode cX6_hasResult 29 = .ok (.iaload, 1) := by decide +kernel
theorem dX6_hasResult_30 : decode cX6_hasResult 30 = .ok (.iload_n 1, 1) := by decide +kernel
theorem dX6_hasResult_31 : decode cX6_hasResult 31 = .ok (.if_icmp .ne 5, 3) := by decide +kernel
theorem dX6_hasResult_34 : decode cX6_hasResult 34 = .ok (.iconst 1, 1) := by decide +kernel
theorem dX6_hasResult_35 : decode cX6_hasResult 35 = .ok (.ireturn, 1) := by decide +kernel
theorem dX6_hasResult_36 : decode cX6_hasResult 36 = .ok (.iinc 3 1, 3) := by decide +kernel
theorem dX6_hasResult_39 : decode cX6_hasResult 39 = .ok (.goto (-37), 3) := by decide +kernel
theorem dX6_hasResult_42 : decode cX6_hasResult 42 = .ok (.iconst 0, 1) := by decide +kernel
theorem dX6_hasResult_43 : decode cX6_hasResult 43 = .ok (.ireturn, 1) := by decide +kernel
theorem dX6_kept_0 : decode cX6_kept 0 = .ok (.iconst 0, 1) := by decide +kernel
theorem dX6_kept_1 : decode cX6_kept 1 = .ok (.istore_n 1, 1) := by decide +kernel
theorem dX6_kept_2 : decode cX6_kept 2 = .ok (.iconst 0, 1) := by decide +kernel
theorem dX6_kept_3 : decode cX6_kept 3 = .ok (.istore_n 2, 1) := by decide +kernel
theorem dX6_kept_4 : decode cX6_kept 4 = .ok (.iload_n 2, 1) := by decide +kernel
theorem dX6_kept_5 : decode cX6_kept 5 = .ok (.aload_n 0, 1) := by decide +kernel
theorem dX6_kept_6 : decode cX6_kept 6 = .ok (.getfield 92, 3) := by decide +kernel
theorem dX6_kept_9 : decode cX6_kept 9 = .ok (.if_icmp .ge 26, 3) := by decide +kernel
theorem dX6_kept_12 : decode cX6_kept 12 = .ok (.iload_n 1, 1) := by decide +kernel
theorem dX6_kept_13 : decode cX6_kept 13 = .ok (.aload_n 0, 1) := by decide +kernel
theorem dX6_kept_14 : decode cX6_kept 14 = .ok (.getfield 45, 3) := by decide +kernel
theorem dX6_kept_17 : decode cX6_kept 17 = .ok (.iload_n 2, 1) := by decide +kernel
theorem dX6_kept_18 : decode cX6_kept 18 = .ok (.baload, 1) := by decide +kernel
theorem dX6_kept_19 : decode cX6_kept 19 = .ok (.ifCond .eq 7, 3) := by decide +kernel
theorem dX6_kept_22 : decode cX6_kept 22 = .ok (.iconst 1, 1) := by decide +kernel
theorem dX6_kept_23 : decode cX6_kept 23 = .ok (.goto 4, 3) := by decide +kernel
theorem dX6_kept_26 : decode cX6_kept 26 = .ok (.iconst 0, 1) := by decide +kernel
theorem dX6_kept_27 : decode cX6_kept 27 = .ok (.iadd, 1) := by decide +kernel
theorem dX6_kept_28 : decode cX6_kept 28 = .ok (.istore_n 1, 1) := by decide +kernel
theorem dX6_kept_29 : decode cX6_kept 29 = .ok (.iinc 2 1, 3) := by decide +kernel
theorem dX6_kept_32 : decode cX6_kept 32 = .ok (.goto (-28), 3) := by decide +kernel
theorem dX6_kept_35 : decode cX6_kept 35 = .ok (.iload_n 1, 1) := by decide +kernel
theorem dX6_kept_36 : decode cX6_kept 36 = .ok (.ireturn, 1) := by decide +kernel
set_option maxRecDepth 20000 in
theorem ggX6_drop_X6_isNeeded : GoodIn wsX6_drop wsX6_isNeeded := goodIn_r _ [9, 10, 11, 12, 8, 13, 1, 2, 3, 14, 15, 16, 17, 4, 18, 19, 20, 21, 22, 23, 24, 25, 26, 27, 28, 29, 30, 31, 32, 33, 34, 35] (by decide +kernel) (by decide +kernel)
set_option maxRecDepth 20000 in
theorem gX6_drop_X6_isNeeded : GoodIn wsX6_drop (wsV RX6 95 RX6 yX6_isNeeded wsX6_isNeeded) := goodIn_app (goodIn_of _ (by decide +kernel)) ggX6_drop_X6_isNeeded
theorem dX6_drop_0 : decode cX6_drop 0 = .ok (.iconst 0, 1) := by decide +kernel
theorem dX6_drop_1 : decode cX6_drop 1 = .ok (.istore_n 1, 1) := by decide +kernel
theorem dX6_drop_2 : decode cX6_drop 2 = .ok (.iload_n 1, 1) := by decide +kernel
theorem dX6_drop_3 : decode cX6_drop 3 = .ok (.aload_n 0, 1) := by decide +kernel
theorem dX6_drop_4 : decode cX6_drop 4 = .ok (.getfield 92, 3) := by decide +kernel
theorem dX6_drop_7 : decode cX6_drop 7 = .ok (.if_icmp .ge 35, 3) := by decide +kernel
theorem dX6_drop_10 : decode cX6_drop 10 = .ok (.aload_n 0, 1) := by decide +kernel
theorem dX6_drop_11 : decode cX6_drop 11 = .ok (.getfield 45, 3) := by decide +kernel
theorem dX6_drop_14 : decode cX6_drop 14 = .ok (.iload_n 1, 1) := by decide +kernel
theorem dX6_drop_15 : decode cX6_drop 15 = .ok (.dup2, 1) := by decide +kernel
theorem dX6_drop_16 : decode cX6_drop 16 = .ok (.baload, 1) := by decide +kernel
theorem dX6_drop_17 : decode cX6_drop 17 = .ok (.aload_n 0, 1) := by decide +kernel
theorem dX6_drop_18 : decode cX6_drop 18 = .ok (.aload_n 0, 1) := by decide +kernel
theorem dX6_drop_19 : decode cX6_drop 19 = .ok (.getfield 39, 3) := by decide +kernel
theorem dX6_drop_22 : decode cX6_drop 22 = .ok (.iload_n 1, 1) := by decide +kernel
theorem dX6_drop_23 : decode cX6_drop 23 = .ok (.iaload, 1) := by decide +kernel
theorem dX6_drop_24 : decode cX6_drop 24 = .ok (.aload_n 0, 1) := by decide +kernel
theorem dX6_drop_25 : decode cX6_drop 25 = .ok (.getfield 42, 3) := by decide +kernel
theorem dX6_drop_28 : decode cX6_drop 28 = .ok (.iload_n 1, 1) := by decide +kernel
theorem dX6_drop_29 : decode cX6_drop 29 = .ok (.iaload, 1) := by decide +kernel
theorem dX6_drop_30 : decode cX6_drop 30 = .ok (.iload_n 1, 1) := by decide +kernel
theorem dX6_drop_31 : decode cX6_drop 31 = .ok (.invokevirtual 95, 3) := by decide +kernel
theorem dX6_drop_34 : decode cX6_drop 34 = .ok (.iand, 1) := by decide +kernel
theorem dX6_drop_35 : decode cX6_drop 35 = .ok (.bastore, 1) := by decide +kernel
theorem dX6_drop_36 : decode cX6_drop 36 = .ok (.iinc 1 1, 3) := by decide +kernel
theorem dX6_drop_39 : decode cX6_drop 39 = .ok (.goto (-37), 3) := by decide +kernel
theorem dX6_drop_42 : decode cX6_drop 42 = .ok (.return_, 1) := by decide +kernel
set_option maxRecDepth 20000 in
theorem ggX6_changed_X6_edgesOf : GoodIn wsX6_changed wsX6_edgesOf := goodIn_r _ [10, 11, 12, 13, 9, 14, 15, 16, 17, 18, 19, 20, 21, 22, 23, 24, 25, 26, 27, 28, 29, 30, 31, 32, 33, 34, 59, 60, 61, 62, 63, 64, 65, 66, 67, 68, 69, 70, 71, 72, 73, 74, 75, 76] (by decide +kernel) (by decide +kernel)
set_option maxRecDepth 20000 in
theorem gX6_changed_X6_edgesOf : GoodIn wsX6_changed (wsV RX6 98 RX6 yX6_edgesOf wsX6_edgesOf) := goodIn_app (goodIn_of _ (by decide +kernel)) ggX6_changed_X6_edgesOf
set_option maxRecDepth 20000 in
theorem ggX6_changed_X6_resultOf : GoodIn wsX6_changed wsX6_resultOf := goodIn_r _ [38, 11, 12, 13, 9, 14, 15, 16, 17, 18, 19, 20, 21, 22, 23, 24, 25, 26, 27, 28, 29, 30, 31, 32, 33, 34, 59, 60, 61, 62, 63, 64, 65, 66, 67, 68, 69, 70, 71, 72, 73, 74, 75, 76] (by decide +kernel) (by decide +kernel)
set_option maxRecDepth 20000 in
theorem gX6_changed_X6_resultOf : GoodIn wsX6_changed (wsV RX6 101 RX6 yX6_resultOf wsX6_resultOf) := goodIn_app (goodIn_of _ (by decide +kernel)) ggX6_changed_X6_resultOf
set_option maxRecDepth 20000 in
theorem ggX6_changed_X6_isNeeded : GoodIn wsX6_changed wsX6_isNeeded := goodIn_r _ [42, 43, 44, 45, 9, 46, 1, 5, 2, 47, 48, 49, 50, 4, 59, 60, 61, 62, 63, 64, 65, 66, 67, 68, 69, 70, 71, 72, 73, 74, 75, 76] (by decide +kernel) (by decide +kernel)
set_option maxRecDepth 20000 in
theorem gX6_changed_X6_isNeeded : GoodIn wsX6_changed (wsV RX6 95 RX6 yX6_isNeeded wsX6_isNeeded) := goodIn_app (goodIn_of _ (by decide +kernel)) ggX6_changed_X6_isNeeded
set_option maxRecDepth 20000 in
theorem ggX6_changed_X6_drop : GoodIn wsX6_changed wsX6_drop := goodIn_r _ [54, 1, 5, 2, 4, 39, 40, 41, 9, 42, 43, 44, 45, 46, 47, 48, 49, 50, 59, 60, 61, 62, 63, 64, 65, 66, 67, 68, 69, 70, 71, 72, 73, 74, 75, 76] (by decide +kernel) (by decide +kernel)
set_option maxRecDepth 20000 in
theorem gX6_changed_X6_drop : GoodIn wsX6_changed (wsV RX6 104 RX6 yX6_drop wsX6_drop) := goodIn_app (goodIn_of _ (by decide +kernel)) ggX6_changed_X6_drop
set_option maxRecDepth 20000 in
theorem ggX6_changed_X6_kept : GoodIn wsX6_changed wsX6_kept := goodIn_r _ [58, 1, 5, 59, 60, 61, 62, 63, 64, 65, 66, 67, 68, 69, 70, 71, 72, 73, 74, 75, 76] (by decide +kernel) (by decide +kernel)
set_option maxRecDepth 20000 in
theorem gX6_changed_X6_kept : GoodIn wsX6_changed (wsV RX6 107 RX6 yX6_kept wsX6_kept) := goodIn_app (goodIn_of _ (by decide +kernel)) ggX6_changed_X6_kept
theorem dX6_changed_0 : decode cX6_changed 0 = .ok (.iconst 0, 1) := by decide +kernel
theorem dX6_changed_1 : decode cX6_changed 1 = .ok (.istore_n 1, 1) := by decide +kernel
theorem dX6_changed_2 : decode cX6_changed 2 = .ok (.iload_n 1, 1) := by decide +kernel
theorem dX6_changed_3 : decode cX6_changed 3 = .ok (.aload_n 0, 1) := by decide +kernel
theorem dX6_changed_4 : decode cX6_changed 4 = .ok (.getfield 92, 3) := by decide +kernel
theorem dX6_changed_7 : decode cX6_changed 7 = .ok (.if_icmp .ge 41, 3) := by decide +kernel
theorem dX6_changed_10 : decode cX6_changed 10 = .ok (.aload_n 0, 1) := by decide +kernel
theorem dX6_changed_11 : decode cX6_changed 11 = .ok (.getfield 39, 3) := by decide +kernel
theorem dX6_changed_14 : decode cX6_changed 14 = .ok (.iload_n 1, 1) := by decide +kernel
theorem dX6_changed_15 : decode cX6_changed 15 = .ok (.aload_n 0, 1) := by decide +kernel
theorem dX6_changed_16 : decode cX6_changed 16 = .ok (.aload_n 0, 1) := by decide +kernel
theorem dX6_changed_17 : decode cX6_changed 17 = .ok (.getfield 33, 3) := by decide +kernel
theorem dX6_changed_20 : decode cX6_changed 20 = .ok (.iload_n 1, 1) := by decide +kernel
theorem dX6_changed_21 : decode cX6_changed 21 = .ok (.iaload, 1) := by decide +kernel
theorem dX6_changed_22 : decode cX6_changed 22 = .ok (.invokevirtual 98, 3) := by decide +kernel
theorem dX6_changed_25 : decode cX6_changed 25 = .ok (.iastore, 1) := by decide +kernel
theorem dX6_changed_26 : decode cX6_changed 26 = .ok (.aload_n 0, 1) := by decide +kernel
theorem dX6_changed_27 : decode cX6_changed 27 = .ok (.getfield 42, 3) := by decide +kernel
theorem dX6_changed_30 : decode cX6_changed 30 = .ok (.iload_n 1, 1) := by decide +kernel
theorem dX6_changed_31 : decode cX6_changed 31 = .ok (.aload_n 0, 1) := by decide +kernel
theorem dX6_changed_32 : decode cX6_changed 32 = .ok (.aload_n 0, 1) := by decide +kernel
theorem dX6_changed_33 : decode cX6_changed 33 = .ok (.getfield 33, 3) := by decide +kernel
theorem dX6_changed_36 : decode cX6_changed 36 = .ok (.iload_n 1, 1) := by decide +kernel
theorem dX6_changed_37 : decode cX6_changed 37 = .ok (.iaload, 1) := by decide +kernel
theorem dX6_changed_38 : decode cX6_changed 38 = .ok (.invokevirtual 101, 3) := by decide +kernel
theorem dX6_changed_41 : decode cX6_changed 41 = .ok (.iastore, 1) := by decide +kernel
theorem dX6_changed_42 : decode cX6_changed 42 = .ok (.iinc 1 1, 3) := by decide +kernel
theorem dX6_changed_45 : decode cX6_changed 45 = .ok (.goto (-43), 3) := by decide +kernel
theorem dX6_changed_48 : decode cX6_changed 48 = .ok (.iconst 0, 1) := by decide +kernel
theorem dX6_changed_49 : decode cX6_changed 49 = .ok (.istore_n 1, 1) := by decide +kernel
theorem dX6_changed_50 : decode cX6_changed 50 = .ok (.iload_n 1, 1) := by decide +kernel
theorem dX6_changed_51 : decode cX6_changed 51 = .ok (.aload_n 0, 1) := by decide +kernel
theorem dX6_changed_52 : decode cX6_changed 52 = .ok (.getfield 92, 3) := by decide +kernel
theorem dX6_changed_55 : decode cX6_changed 55 = .ok (.if_icmp .ge 35, 3) := by decide +kernel
theorem dX6_changed_58 : decode cX6_changed 58 = .ok (.aload_n 0, 1) := by decide +kernel
theorem dX6_changed_59 : decode cX6_changed 59 = .ok (.getfield 45, 3) := by decide +kernel
theorem dX6_changed_62 : decode cX6_changed 62 = .ok (.iload_n 1, 1) := by decide +kernel
theorem dX6_changed_63 : decode cX6_changed 63 = .ok (.dup2, 1) := by decide +kernel
theorem dX6_changed_64 : decode cX6_changed 64 = .ok (.baload, 1) := by decide +kernel
theorem dX6_changed_65 : decode cX6_changed 65 = .ok (.aload_n 0, 1) := by decide +kernel
theorem dX6_changed_66 : decode cX6_changed 66 = .ok (.aload_n 0, 1) := by decide +kernel
theorem dX6_changed_67 : decode cX6_changed 67 = .ok (.getfield 39, 3) := by decide +kernel
theorem dX6_changed_70 : decode cX6_changed 70 = .ok (.iload_n 1, 1) := by decide +kernel
theorem dX6_changed_71 : decode cX6_changed 71 = .ok (.iaload, 1) := by decide +kernel
theorem dX6_changed_72 : decode cX6_changed 72 = .ok (.aload_n 0, 1) := by decide +kernel
theorem dX6_changed_73 : decode cX6_changed 73 = .ok (.getfield 42, 3) := by decide +kernel
theorem dX6_changed_76 : decode cX6_changed 76 = .ok (.iload_n 1, 1) := by decide +kernel
theorem dX6_changed_77 : decode cX6_changed 77 = .ok (.iaload, 1) := by decide +kernel
theorem dX6_changed_78 : decode cX6_changed 78 = .ok (.iload_n 1, 1) := by decide +kernel
theorem dX6_changed_79 : decode cX6_changed 79 = .ok (.invokevirtual 95, 3) := by decide +kernel
theorem dX6_changed_82 : decode cX6_changed 82 = .ok (.ior, 1) := by decide +kernel
theorem dX6_changed_83 : decode cX6_changed 83 = .ok (.bastore, 1) := by decide +kernel
theorem dX6_changed_84 : decode cX6_changed 84 = .ok (.iinc 1 1, 3) := by decide +kernel
theorem dX6_changed_87 : decode cX6_changed 87 = .ok (.goto (-37), 3) := by decide +kernel
theorem dX6_changed_90 : decode cX6_changed 90 = .ok (.aload_n 0, 1) := by decide +kernel
theorem dX6_changed_91 : decode cX6_changed 91 = .ok (.invokevirtual 104, 3) := by decide +kernel
theorem dX6_changed_94 : decode cX6_changed 94 = .ok (.aload_n 0, 1) := by decide +kernel
theorem dX6_changed_95 : decode cX6_changed 95 = .ok (.invokevirtual 107, 3) := by decide +kernel
theorem dX6_changed_98 : decode cX6_changed 98 = .ok (.ireturn, 1) := by decide +kernel
set_option maxRecDepth 20000 in
theorem ggX6_ask_X6_isNode : GoodIn wsX6_ask wsX6_isNode := goodIn_r _ [8, 9, 10, 7, 11] (by decide +kernel) (by decide +kernel)
set_option maxRecDepth 20000 in
theorem gX6_ask_X6_isNode : GoodIn wsX6_ask (va_wsS RX6 111 yX6_isNode wsX6_isNode) := goodIn_app (goodIn_of _ (by decide +kernel)) ggX6_ask_X6_isNode
set_option maxRecDepth 20000 in
theorem ggX6_ask_X6_isSlot : GoodIn wsX6_ask wsX6_isSlot := goodIn_r _ [14, 9, 10, 7, 11] (by decide +kernel) (by decide +kernel)
set_option maxRecDepth 20000 in
theorem gX6_ask_X6_isSlot : GoodIn wsX6_ask (va_wsS RX6 115 yX6_isSlot wsX6_isSlot) := goodIn_app (goodIn_of _ (by decide +kernel)) ggX6_ask_X6_isSlot
set_option maxRecDepth 20000 in
theorem ggX6_ask_X6_no : GoodIn wsX6_ask wsX6_no := goodIn_r _ [18, 1, 77, 78, 79, 80, 81, 82, 83, 84, 85, 86, 87, 88, 89, 90, 91, 92, 93, 94] (by decide +kernel) (by decide +kernel)
set_option maxRecDepth 20000 in
theorem gX6_ask_X6_no : GoodIn wsX6_ask (wsV RX6 118 RX6 yX6_no wsX6_no) := goodIn_app (goodIn_of _ (by decide +kernel)) ggX6_ask_X6_no
set_option maxRecDepth 20000 in
theorem ggX6_ask_X6_isIn : GoodIn wsX6_ask wsX6_isIn := goodIn_r _ [11] (by decide +kernel) (by decide +kernel)
set_option maxRecDepth 20000 in
theorem gX6_ask_X6_isIn : GoodIn wsX6_ask (va_wsS RX6 60 yX6_isIn wsX6_isIn) := goodIn_app (goodIn_of _ (by decide +kernel)) ggX6_ask_X6_isIn
set_option maxRecDepth 20000 in
theorem ggX6_ask_X6_changed : GoodIn wsX6_ask wsX6_changed := goodIn_r _ [22, 23, 24, 25, 26, 27, 28, 29, 30, 7, 31, 32, 33, 34, 35, 36, 37, 38, 39, 40, 41, 42, 43, 44, 45, 46, 2, 3, 4, 47, 48, 49, 50, 51, 52, 53, 54, 55, 56, 57, 58, 59, 60, 61, 62, 63, 64, 65, 66, 67, 68, 69, 70, 71, 72, 73, 74, 75, 76, 77, 78, 79, 80, 81, 82, 83, 84, 85, 86, 87, 88, 89, 90, 91, 92, 93, 94] (by decide +kernel) (by decide +kernel)
set_option maxRecDepth 20000 in
theorem gX6_ask_X6_changed : GoodIn wsX6_ask (wsV RX6 121 RX6 yX6_changed wsX6_changed) := goodIn_app (goodIn_of _ (by decide +kernel)) ggX6_ask_X6_changed
theorem dX6_ask_0 : decode cX6_ask 0 = .ok (.aload_n 0, 1) := by decide +kernel
theorem dX6_ask_1 : decode cX6_ask 1 = .ok (.iconst 0, 1) := by decide +kernel
theorem dX6_ask_2 : decode cX6_ask 2 = .ok (.putfield 57, 3) := by decide +kernel
theorem dX6_ask_5 : decode cX6_ask 5 = .ok (.iload_n 1, 1) := by decide +kernel
theorem dX6_ask_6 : decode cX6_ask 6 = .ok (.invokestatic 111, 3) := by decide +kernel
theorem dX6_ask_9 : decode cX6_ask 9 = .ok (.ifCond .eq 10, 3) := by decide +kernel
theorem dX6_ask_12 : decode cX6_ask 12 = .ok (.iload_n 2, 1) := by decide +kernel
theorem dX6_ask_13 : decode cX6_ask 13 = .ok (.invokestatic 115, 3) := by decide +kernel
theorem dX6_ask_16 : decode cX6_ask 16 = .ok (.ifCond .ne 9, 3) := by decide +kernel
theorem dX6_ask_19 : decode cX6_ask 19 = .ok (.aload_n 0, 1) := by decide +kernel
theorem dX6_ask_20 : decode cX6_ask 20 = .ok (.iconst 1, 1) := by decide +kernel
theorem dX6_ask_21 : decode cX6_ask 21 = .ok (.invokevirtual 118, 3) := by decide +kernel
theorem dX6_ask_24 : decode cX6_ask 24 = .ok (.ireturn, 1) := by decide +kernel
theorem dX6_ask_25 : decode cX6_ask 25 = .ok (.iload_n 3, 1) := by decide +kernel
theorem dX6_ask_26 : decode cX6_ask 26 = .ok (.iconst 0, 1) := by decide +kernel
theorem dX6_ask_27 : decode cX6_ask 27 = .ok (.iconst 2, 1) := by decide +kernel
theorem dX6_ask_28 : decode cX6_ask 28 = .ok (.invokestatic 60, 3) := by decide +kernel
theorem dX6_ask_31 : decode cX6_ask 31 = .ok (.ifCond .eq 14, 3) := by decide +kernel
theorem dX6_ask_34 : decode cX6_ask 34 = .ok (.iload 4, 2) := by decide +kernel
theorem dX6_ask_36 : decode cX6_ask 36 = .ok (.iconst 0, 1) := by decide +kernel
theorem dX6_ask_37 : decode cX6_ask 37 = .ok (.bipush 9, 2) := by decide +kernel
theorem dX6_ask_39 : decode cX6_ask 39 = .ok (.invokestatic 60, 3) := by decide +kernel
theorem dX6_ask_42 : decode cX6_ask 42 = .ok (.ifCond .ne 9, 3) := by decide +kernel
theorem dX6_ask_45 : decode cX6_ask 45 = .ok (.aload_n 0, 1) := by decide +kernel
theorem dX6_ask_46 : decode cX6_ask 46 = .ok (.iconst 2, 1) := by decide +kernel
theorem dX6_ask_47 : decode cX6_ask 47 = .ok (.invokevirtual 118, 3) := by decide +kernel
theorem dX6_ask_50 : decode cX6_ask 50 = .ok (.ireturn, 1) := by decide +kernel
theorem dX6_ask_51 : decode cX6_ask 51 = .ok (.aload_n 0, 1) := by decide +kernel
theorem dX6_ask_52 : decode cX6_ask 52 = .ok (.getfield 9, 3) := by decide +kernel
theorem dX6_ask_55 : decode cX6_ask 55 = .ok (.iload_n 1, 1) := by decide +kernel
theorem dX6_ask_56 : decode cX6_ask 56 = .ok (.iload_n 2, 1) := by decide +kernel
theorem dX6_ask_57 : decode cX6_ask 57 = .ok (.iastore, 1) := by decide +kernel
theorem dX6_ask_58 : decode cX6_ask 58 = .ok (.aload_n 0, 1) := by decide +kernel
theorem dX6_ask_59 : decode cX6_ask 59 = .ok (.getfield 13, 3) := by decide +kernel
theorem dX6_ask_62 : decode cX6_ask 62 = .ok (.iload_n 1, 1) := by decide +kernel
theorem dX6_ask_63 : decode cX6_ask 63 = .ok (.iload_n 3, 1) := by decide +kernel
theorem dX6_ask_64 : decode cX6_ask 64 = .ok (.iastore, 1) := by decide +kernel
theorem dX6_ask_65 : decode cX6_ask 65 = .ok (.aload_n 0, 1) := by decide +kernel
theorem dX6_ask_66 : decode cX6_ask 66 = .ok (.getfield 16, 3) := by decide +kernel
theorem dX6_ask_69 : decode cX6_ask 69 = .ok (.iload_n 1, 1) := by decide +kernel
theorem dX6_ask_70 : decode cX6_ask 70 = .ok (.iload 4, 2) := by decide +kernel
theorem dX6_ask_72 : decode cX6_ask 72 = .ok (.iastore, 1) := by decide +kernel
theorem dX6_ask_73 : decode cX6_ask 73 = .ok (.aload_n 0, 1) := by decide +kernel
theorem dX6_ask_74 : decode cX6_ask 74 = .ok (.invokevirtual 121, 3) := by decide +kernel
theorem dX6_ask_77 : decode cX6_ask 77 = .ok (.ireturn, 1) := by decide +kernel
set_option maxRecDepth 20000 in
theorem ggX6_lead_X6_isNode : GoodIn wsX6_lead wsX6_isNode := goodIn_r _ [6, 7, 8, 5, 9] (by decide +kernel) (by decide +kernel)
set_option maxRecDepth 20000 in
theorem gX6_lead_X6_isNode : GoodIn wsX6_lead (va_wsS RX6 111 yX6_isNode wsX6_isNode) := goodIn_app (goodIn_of _ (by decide +kernel)) ggX6_lead_X6_isNode
set_option maxRecDepth 20000 in
theorem ggX6_lead_X6_no : GoodIn wsX6_lead wsX6_no := goodIn_r _ [13, 1, 74, 75, 76, 77, 78, 79, 80, 81, 82, 83, 84, 85, 86, 87, 88, 89, 90, 91] (by decide +kernel) (by decide +kernel)
set_option maxRecDepth 20000 in
theorem gX6_lead_X6_no : GoodIn wsX6_lead (wsV RX6 118 RX6 yX6_no wsX6_no) := goodIn_app (goodIn_of _ (by decide +kernel)) ggX6_lead_X6_no
set_option maxRecDepth 20000 in
theorem ggX6_lead_X6_changed : GoodIn wsX6_lead wsX6_changed := goodIn_r _ [17, 18, 19, 20, 21, 22, 23, 24, 25, 5, 26, 27, 28, 29, 30, 31, 32, 2, 33, 34, 35, 36, 37, 38, 39, 40, 41, 42, 43, 44, 45, 46, 47, 48, 49, 50, 51, 52, 53, 54, 55, 56, 57, 58, 59, 60, 61, 62, 63, 64, 65, 66, 67, 68, 69, 70, 71, 72, 73, 74, 75, 76, 77, 78, 79, 80, 81, 82, 83, 84, 85, 86, 87, 88, 89, 90, 91] (by decide +kernel) (by decide +kernel)
set_option maxRecDepth 20000 in
theorem gX6_lead_X6_changed : GoodIn wsX6_lead (wsV RX6 121 RX6 yX6_changed wsX6_changed) := goodIn_app (goodIn_of _ (by decide +kernel)) ggX6_lead_X6_changed
theorem dX6_lead_0 : decode cX6_lead 0 = .ok (.aload_n 0, 1) := by decide +kernel
theorem dX6_lead_1 : decode cX6_lead 1 = .ok (.iconst 0, 1) := by decide +kernel
theorem dX6_lead_2 : decode cX6_lead 2 = .ok (.putfield 57, 3) := by decide +kernel
theorem dX6_lead_5 : decode cX6_lead 5 = .ok (.iload_n 1, 1) := by decide +kernel
theorem dX6_lead_6 : decode cX6_lead 6 = .ok (.invokestatic 111, 3) := by decide +kernel
theorem dX6_lead_9 : decode cX6_lead 9 = .ok (.ifCond .eq 27, 3) := by decide +kernel
theorem dX6_lead_12 : decode cX6_lead 12 = .ok (.iload_n 2, 1) := by decide +kernel
theorem dX6_lead_13 : decode cX6_lead 13 = .ok (.iconst (-1), 1) := by decide +kernel
theorem dX6_lead_14 : decode cX6_lead 14 = .ok (.if_icmp .eq 10, 3) := by decide +kernel
theorem dX6_lead_17 : decode cX6_lead 17 = .ok (.iload_n 2, 1) := by decide +kernel
theorem dX6_lead_18 : decode cX6_lead 18 = .ok (.invokestatic 111, 3) := by decide +kernel
theorem dX6_lead_21 : decode cX6_lead 21 = .ok (.ifCond .eq 15, 3) := by decide +kernel
theorem dX6_lead_24 : decode cX6_lead 24 = .ok (.iload_n 3, 1) := by decide +kernel
theorem dX6_lead_25 : decode cX6_lead 25 = .ok (.iconst (-1), 1) := by decide +kernel
theorem dX6_lead_26 : decode cX6_lead 26 = .ok (.if_icmp .eq 16, 3) := by decide +kernel
theorem dX6_lead_29 : decode cX6_lead 29 = .ok (.iload_n 3, 1) := by decide +kernel
theorem dX6_lead_30 : decode cX6_lead 30 = .ok (.invokestatic 111, 3) := by decide +kernel
theorem dX6_lead_33 : decode cX6_lead 33 = .ok (.ifCond .ne 9, 3) := by decide +kernel
theorem dX6_lead_36 : decode cX6_lead 36 = .ok (.aload_n 0, 1) := by decide +kernel
theorem dX6_lead_37 : decode cX6_lead 37 = .ok (.iconst 1, 1) := by decide +kernel
theorem dX6_lead_38 : decode cX6_lead 38 = .ok (.invokevirtual 118, 3) := by decide +kernel
theorem dX6_lead_41 : decode cX6_lead 41 = .ok (.ireturn, 1) := by decide +kernel
theorem dX6_lead_42 : decode cX6_lead 42 = .ok (.aload_n 0, 1) := by decide +kernel
theorem dX6_lead_43 : decode cX6_lead 43 = .ok (.getfield 19, 3) := by decide +kernel
theorem dX6_lead_46 : decode cX6_lead 46 = .ok (.iconst 2, 1) := by decide +kernel
theorem dX6_lead_47 : decode cX6_lead 47 = .ok (.iload_n 1, 1) := by decide +kernel
theorem dX6_lead_48 : decode cX6_lead 48 = .ok (.imul, 1) := by decide +kernel
theorem dX6_lead_49 : decode cX6_lead 49 = .ok (.iload_n 2, 1) := by decide +kernel
theorem dX6_lead_50 : decode cX6_lead 50 = .ok (.iastore, 1) := by decide +kernel
theorem dX6_lead_51 : decode cX6_lead 51 = .ok (.aload_n 0, 1) := by decide +kernel
theorem dX6_lead_52 : decode cX6_lead 52 = .ok (.getfield 19, 3) := by decide +kernel
theorem dX6_lead_55 : decode cX6_lead 55 = .ok (.iconst 2, 1) := by decide +kernel
theorem dX6_lead_56 : decode cX6_lead 56 = .ok (.iload_n 1, 1) := by decide +kernel
theorem dX6_lead_57 : decode cX6_lead 57 = .ok (.imul, 1) := by decide +kernel
theorem dX6_lead_58 : decode cX6_lead 58 = .ok (.iconst 1, 1) := by decide +kernel
theorem dX6_lead_59 : decode cX6_lead 59 = .ok (.iadd, 1) := by decide +kernel
theorem dX6_lead_60 : decode cX6_lead 60 = .ok (.iload_n 3, 1) := by decide +kernel
theorem dX6_lead_61 : decode cX6_lead 61 = .ok (.iastore, 1) := by decide +kernel
theorem dX6_lead_62 : decode cX6_lead 62 = .ok (.aload_n 0, 1) := by decide +kernel
theorem dX6_lead_63 : decode cX6_lead 63 = .ok (.invokevirtual 121, 3) := by decide +kernel
theorem dX6_lead_66 : decode cX6_lead 66 = .ok (.ireturn, 1) := by decide +kernel
set_option maxRecDepth 20000 in
theorem ggX6_bad_X6_isNode : GoodIn wsX6_bad wsX6_isNode := goodIn_r _ [6, 7, 8, 5, 9] (by decide +kernel) (by decide +kernel)
set_option maxRecDepth 20000 in
theorem gX6_bad_X6_isNode : GoodIn wsX6_bad (va_wsS RX6 111 yX6_isNode wsX6_isNode) := goodIn_app (goodIn_of _ (by decide +kernel)) ggX6_bad_X6_isNode
set_option maxRecDepth 20000 in
theorem ggX6_bad_X6_no : GoodIn wsX6_bad wsX6_no := goodIn_r _ [13, 1, 74, 75, 76, 77, 78, 79, 80, 81, 82, 83, 84, 85, 86, 87, 88, 89, 90, 91] (by decide +kernel) (by decide +kernel)
set_option maxRecDepth 20000 in
theorem gX6_bad_X6_no : GoodIn wsX6_bad (wsV RX6 118 RX6 yX6_no wsX6_no) := goodIn_app (goodIn_of _ (by decide +kernel)) ggX6_bad_X6_no
set_option maxRecDepth 20000 in
theorem ggX6_bad_X6_changed : GoodIn wsX6_bad wsX6_changed := goodIn_r _ [17, 18, 19, 20, 21, 22, 23, 24, 25, 5, 26, 27, 28, 29, 30, 31, 2, 32, 33, 34, 35, 36, 37, 38, 39, 40, 41, 42, 43, 44, 45, 46, 47, 48, 49, 50, 51, 52, 53, 54, 55, 56, 57, 58, 59, 60, 61, 62, 63, 64, 65, 66, 67, 68, 69, 70, 71, 72, 73, 74, 75, 76, 77, 78, 79, 80, 81, 82, 83, 84, 85, 86, 87, 88, 89, 90, 91] (by decide +kernel) (by decide +kernel)
set_option maxRecDepth 20000 in
theorem gX6_bad_X6_changed : GoodIn wsX6_bad (wsV RX6 121 RX6 yX6_changed wsX6_changed) := goodIn_app (goodIn_of _ (by decide +kernel)) ggX6_bad_X6_changed
theorem dX6_bad_0 : decode cX6_bad 0 = .ok (.aload_n 0, 1) := by decide +kernel
theorem dX6_bad_1 : decode cX6_bad 1 = .ok (.iconst 0, 1) := by decide +kernel
theorem dX6_bad_2 : decode cX6_bad 2 = .ok (.putfield 57, 3) := by decide +kernel
theorem dX6_bad_5 : decode cX6_bad 5 = .ok (.iload_n 1, 1) := by decide +kernel
theorem dX6_bad_6 : decode cX6_bad 6 = .ok (.invokestatic 111, 3) := by decide +kernel
theorem dX6_bad_9 : decode cX6_bad 9 = .ok (.ifCond .ne 9, 3) := by decide +kernel
theorem dX6_bad_12 : decode cX6_bad 12 = .ok (.aload_n 0, 1) := by decide +kernel
theorem dX6_bad_13 : decode cX6_bad 13 = .ok (.iconst 1, 1) := by decide +kernel
theorem dX6_bad_14 : decode cX6_bad 14 = .ok (.invokevirtual 118, 3) := by decide +kernel
theorem dX6_bad_17 : decode cX6_bad 17 = .ok (.ireturn, 1) := by decide +kernel
theorem dX6_bad_18 : decode cX6_bad 18 = .ok (.aload_n 0, 1) := by decide +kernel
theorem dX6_bad_19 : decode cX6_bad 19 = .ok (.getfield 22, 3) := by decide +kernel
theorem dX6_bad_22 : decode cX6_bad 22 = .ok (.iload_n 1, 1) := by decide +kernel
theorem dX6_bad_23 : decode cX6_bad 23 = .ok (.iload_n 2, 1) := by decide +kernel
theorem dX6_bad_24 : decode cX6_bad 24 = .ok (.bastore, 1) := by decide +kernel
theorem dX6_bad_25 : decode cX6_bad 25 = .ok (.aload_n 0, 1) := by decide +kernel
theorem dX6_bad_26 : decode cX6_bad 26 = .ok (.invokevirtual 121, 3) := by decide +kernel
theorem dX6_bad_29 : decode cX6_bad 29 = .ok (.ireturn, 1) := by decide +kernel
set_option maxRecDepth 20000 in
theorem ggX6_run_X6_isCase : GoodIn wsX6_run wsX6_isCase := goodIn_r _ [5, 6, 7, 4, 8] (by decide +kernel) (by decide +kernel)
set_option maxRecDepth 20000 in
theorem gX6_run_X6_isCase : GoodIn wsX6_run (va_wsS RX6 124 yX6_isCase wsX6_isCase) := goodIn_app (goodIn_of _ (by decide +kernel)) ggX6_run_X6_isCase
set_option maxRecDepth 20000 in
theorem ggX6_run_X6_resultOf : GoodIn wsX6_run wsX6_resultOf := goodIn_r _ [12, 13, 14, 15, 4, 16, 17, 18, 19, 20, 21, 22, 23, 24, 25, 26, 27, 28, 29, 30, 31, 32, 33, 34, 35, 36, 41, 42, 43, 44, 45, 46, 47, 48, 49, 50, 51, 52, 53, 54, 55, 56, 57, 58] (by decide +kernel) (by decide +kernel)
set_option maxRecDepth 20000 in
theorem gX6_run_X6_resultOf : GoodIn wsX6_run (wsV RX6 101 RX6 yX6_resultOf wsX6_resultOf) := goodIn_app (goodIn_of _ (by decide +kernel)) ggX6_run_X6_resultOf
set_option maxRecDepth 20000 in
theorem ggX6_run_X6_no : GoodIn wsX6_run wsX6_no := goodIn_r _ [40, 1, 41, 42, 43, 44, 45, 46, 47, 48, 49, 50, 51, 52, 53, 54, 55, 56, 57, 58] (by decide +kernel) (by decide +kernel)
set_option maxRecDepth 20000 in
theorem gX6_run_X6_no : GoodIn wsX6_run (wsV RX6 118 RX6 yX6_no wsX6_no) := goodIn_app (goodIn_of _ (by decide +kernel)) ggX6_run_X6_no
theorem dX6_run_0 : decode cX6_run 0 = .ok (.aload_n 0, 1) := by decide +kernel
theorem dX6_run_1 : decode cX6_run 1 = .ok (.iconst 0, 1) := by decide +kernel
theorem dX6_run_2 : decode cX6_run 2 = .ok (.putfield 57, 3) := by decide +kernel
theorem dX6_run_5 : decode cX6_run 5 = .ok (.iload_n 1, 1) := by decide +kernel
theorem dX6_run_6 : decode cX6_run 6 = .ok (.invokestatic 124, 3) := by decide +kernel
theorem dX6_run_9 : decode cX6_run 9 = .ok (.ifCond .eq 11, 3) := by decide +kernel
theorem dX6_run_12 : decode cX6_run 12 = .ok (.aload_n 0, 1) := by decide +kernel
theorem dX6_run_13 : decode cX6_run 13 = .ok (.iload_n 1, 1) := by decide +kernel
theorem dX6_run_14 : decode cX6_run 14 = .ok (.invokevirtual 101, 3) := by decide +kernel
theorem dX6_run_17 : decode cX6_run 17 = .ok (.goto 8, 3) := by decide +kernel
theorem dX6_run_20 : decode cX6_run 20 = .ok (.aload_n 0, 1) := by decide +kernel
theorem dX6_run_21 : decode cX6_run 21 = .ok (.iconst 1, 1) := by decide +kernel
theorem dX6_run_22 : decode cX6_run 22 = .ok (.invokevirtual 118, 3) := by decide +kernel
theorem dX6_run_25 : decode cX6_run 25 = .ok (.ireturn, 1) := by decide +kernel
set_option maxRecDepth 20000 in
theorem ggX6_edge_X6_isCase : GoodIn wsX6_edge wsX6_isCase := goodIn_r _ [5, 6, 7, 4, 8] (by decide +kernel) (by decide +kernel)
set_option maxRecDepth 20000 in
theorem gX6_edge_X6_isCase : GoodIn wsX6_edge (va_wsS RX6 124 yX6_isCase wsX6_isCase) := goodIn_app (goodIn_of _ (by decide +kernel)) ggX6_edge_X6_isCase
set_option maxRecDepth 20000 in
theorem ggX6_edge_X6_no : GoodIn wsX6_edge wsX6_no := goodIn_r _ [12, 1, 37, 38, 39, 40, 41, 42, 43, 44, 45, 46, 47, 48, 49, 50, 51, 52, 53, 54] (by decide +kernel) (by decide +kernel)
set_option maxRecDepth 20000 in
theorem gX6_edge_X6_no : GoodIn wsX6_edge (wsV RX6 118 RX6 yX6_no wsX6_no) := goodIn_app (goodIn_of _ (by decide +kernel)) ggX6_edge_X6_no
set_option maxRecDepth 20000 in
theorem ggX6_edge_X6_way : GoodIn wsX6_edge wsX6_way := goodIn_r _ [16, 17, 18, 19, 20, 21, 22, 23, 24, 25, 26, 4, 27, 28, 29, 30, 31, 32, 33, 34, 35, 36, 37, 38, 39, 40, 41, 42, 43, 44, 45, 46, 47, 48, 49, 50, 51, 52, 53, 54] (by decide +kernel) (by decide +kernel)
set_option maxRecDepth 20000 in
theorem gX6_edge_X6_way : GoodIn wsX6_edge (wsV RX6 81 RX6 yX6_way wsX6_way) := goodIn_app (goodIn_of _ (by decide +kernel)) ggX6_edge_X6_way
set_option maxRecDepth 20000 in
theorem ggX6_edge_X6_isIn : GoodIn wsX6_edge wsX6_isIn := goodIn_r _ [8] (by decide +kernel) (by decide +kernel)
set_option maxRecDepth 20000 in
theorem gX6_edge_X6_isIn : GoodIn wsX6_edge (va_wsS RX6 60 yX6_isIn wsX6_isIn) := goodIn_app (goodIn_of _ (by decide +kernel)) ggX6_edge_X6_isIn
theorem dX6_edge_0 : decode cX6_edge 0 = .ok (.aload_n 0, 1) := by decide +kernel
theorem dX6_edge_1 : decode cX6_edge 1 = .ok (.iconst 0, 1) := by decide +kernel
theorem dX6_edge_2 : decode cX6_edge 2 = .ok (.putfield 57, 3) := by decide +kernel
theorem dX6_edge_5 : decode cX6_edge 5 = .ok (.iload_n 1, 1) := by decide +kernel
theorem dX6_edge_6 : decode cX6_edge 6 = .ok (.invokestatic 124, 3) := by decide +kernel
theorem dX6_edge_9 : decode cX6_edge 9 = .ok (.ifCond .ne 9, 3) := by decide +kernel
theorem dX6_edge_12 : decode cX6_edge 12 = .ok (.aload_n 0, 1) := by decide +kernel
theorem dX6_edge_13 : decode cX6_edge 13 = .ok (.iconst 1, 1) := by decide +kernel
theorem dX6_edge_14 : decode cX6_edge 14 = .ok (.invokevirtual 118, 3) := by decide +kernel
theorem dX6_edge_17 : decode cX6_edge 17 = .ok (.ireturn, 1) := by decide +kernel
theorem dX6_edge_18 : decode cX6_edge 18 = .ok (.aload_n 0, 1) := by decide +kernel
theorem dX6_edge_19 : decode cX6_edge 19 = .ok (.iload_n 1, 1) := by decide +kernel
theorem dX6_edge_20 : decode cX6_edge 20 = .ok (.invokevirtual 81, 3) := by decide +kernel
theorem dX6_edge_23 : decode cX6_edge 23 = .ok (.astore_n 3, 1) := by decide +kernel
theorem dX6_edge_24 : decode cX6_edge 24 = .ok (.iload_n 2, 1) := by decide +kernel
theorem dX6_edge_25 : decode cX6_edge 25 = .ok (.iconst 0, 1) := by decide +kernel
theorem dX6_edge_26 : decode cX6_edge 26 = .ok (.aload_n 3, 1) := by decide +kernel
theorem dX6_edge_27 : decode cX6_edge 27 = .ok (.arraylength, 1) := by decide +kernel
theorem dX6_edge_28 : decode cX6_edge 28 = .ok (.iconst 2, 1) := by decide +kernel
theorem dX6_edge_29 : decode cX6_edge 29 = .ok (.isub, 1) := by decide +kernel
theorem dX6_edge_30 : decode cX6_edge 30 = .ok (.invokestatic 60, 3) := by decide +kernel
theorem dX6_edge_33 : decode cX6_edge 33 = .ok (.ifCond .eq 9, 3) := by decide +kernel
theorem dX6_edge_36 : decode cX6_edge 36 = .ok (.aload_n 3, 1) := by decide +kernel
theorem dX6_edge_37 : decode cX6_edge 37 = .ok (.iload_n 2, 1) := by decide +kernel
theorem dX6_edge_38 : decode cX6_edge 38 = .ok (.iaload, 1) := by decide +kernel
theorem dX6_edge_39 : decode cX6_edge 39 = .ok (.goto 8, 3) := by decide +kernel
theorem dX6_edge_42 : decode cX6_edge 42 = .ok (.aload_n 0, 1) := by decide +kernel
theorem dX6_edge_43 : decode cX6_edge 43 = .ok (.iconst 2, 1) := by decide +kernel
theorem dX6_edge_44 : decode cX6_edge 44 = .ok (.invokevirtual 118, 3) := by decide +kernel
theorem dX6_edge_47 : decode cX6_edge 47 = .ok (.ireturn, 1) := by decide +kernel
set_option maxRecDepth 20000 in
theorem ggX6_covers_X6_isCase : GoodIn wsX6_covers wsX6_isCase := goodIn_r _ [5, 6, 7, 4, 8] (by decide +kernel) (by decide +kernel)
set_option maxRecDepth 20000 in
theorem gX6_covers_X6_isCase : GoodIn wsX6_covers (va_wsS RX6 124 yX6_isCase wsX6_isCase) := goodIn_app (goodIn_of _ (by decide +kernel)) ggX6_covers_X6_isCase
set_option maxRecDepth 20000 in
theorem ggX6_covers_X6_edgesOf : GoodIn wsX6_covers wsX6_edgesOf := goodIn_r _ [12, 13, 14, 15, 4, 16, 17, 18, 19, 20, 21, 22, 23, 24, 25, 26, 27, 28, 29, 30, 31, 32, 33, 34, 35, 36, 44, 45, 46, 47, 48, 49, 50, 51, 52, 53, 54, 55, 56, 57, 58, 59, 60, 61] (by decide +kernel) (by decide +kernel)
set_option maxRecDepth 20000 in
theorem gX6_covers_X6_edgesOf : GoodIn wsX6_covers (wsV RX6 98 RX6 yX6_edgesOf wsX6_edgesOf) := goodIn_app (goodIn_of _ (by decide +kernel)) ggX6_covers_X6_edgesOf
set_option maxRecDepth 20000 in
theorem ggX6_covers_X6_count : GoodIn wsX6_covers wsX6_count := goodIn_r _ [39] (by decide +kernel) (by decide +kernel)
set_option maxRecDepth 20000 in
theorem gX6_covers_X6_count : GoodIn wsX6_covers (va_wsS RX6 127 yX6_count wsX6_count) := goodIn_app (goodIn_of _ (by decide +kernel)) ggX6_covers_X6_count
set_option maxRecDepth 20000 in
theorem ggX6_covers_X6_no : GoodIn wsX6_covers wsX6_no := goodIn_r _ [43, 1, 44, 45, 46, 47, 48, 49, 50, 51, 52, 53, 54, 55, 56, 57, 58, 59, 60, 61] (by decide +kernel) (by decide +kernel)
set_option maxRecDepth 20000 in
theorem gX6_covers_X6_no : GoodIn wsX6_covers (wsV RX6 118 RX6 yX6_no wsX6_no) := goodIn_app (goodIn_of _ (by decide +kernel)) ggX6_covers_X6_no
theorem dX6_covers_0 : decode cX6_covers 0 = .ok (.aload_n 0, 1) := by decide +kernel
theorem dX6_covers_1 : decode cX6_covers 1 = .ok (.iconst 0, 1) := by decide +kernel
theorem dX6_covers_2 : decode cX6_covers 2 = .ok (.putfield 57, 3) := by decide +kernel
theorem dX6_covers_5 : decode cX6_covers 5 = .ok (.iload_n 1, 1) := by decide +kernel
theorem dX6_covers_6 : decode cX6_covers 6 = .ok (.invokestatic 124, 3) := by decide +kernel
theorem dX6_covers_9 : decode cX6_covers 9 = .ok (.ifCond .eq 14, 3) := by decide +kernel
theorem dX6_covers_12 : decode cX6_covers 12 = .ok (.aload_n 0, 1) := by decide +kernel
theorem dX6_covers_13 : decode cX6_covers 13 = .ok (.iload_n 1, 1) := by decide +kernel
theorem dX6_covers_14 : decode cX6_covers 14 = .ok (.invokevirtual 98, 3) := by decide +kernel
theorem dX6_covers_17 : decode cX6_covers 17 = .ok (.invokestatic 127, 3) := by decide +kernel
theorem dX6_covers_20 : decode cX6_covers 20 = .ok (.goto 8, 3) := by decide +kernel
theorem dX6_covers_23 : decode cX6_covers 23 = .ok (.aload_n 0, 1) := by decide +kernel
theorem dX6_covers_24 : decode cX6_covers 24 = .ok (.iconst 1, 1) := by decide +kernel
theorem dX6_covers_25 : decode cX6_covers 25 = .ok (.invokevirtual 118, 3) := by decide +kernel
theorem dX6_covers_28 : decode cX6_covers 28 = .ok (.ireturn, 1) := by decide +kernel
set_option maxRecDepth 20000 in
theorem ggX6_weights_X6_isSlot : GoodIn wsX6_weights wsX6_isSlot := goodIn_r _ [6, 7, 8, 5, 9] (by decide +kernel) (by decide +kernel)
set_option maxRecDepth 20000 in
theorem gX6_weights_X6_isSlot : GoodIn wsX6_weights (va_wsS RX6 115 yX6_isSlot wsX6_isSlot) := goodIn_app (goodIn_of _ (by decide +kernel)) ggX6_weights_X6_isSlot
set_option maxRecDepth 20000 in
theorem ggX6_weights_X6_no : GoodIn wsX6_weights wsX6_no := goodIn_r _ [13, 1, 14, 15, 16, 17, 18, 19, 20, 21, 22, 23, 24, 25, 26, 27, 28, 29, 30, 31] (by decide +kernel) (by decide +kernel)
set_option maxRecDepth 20000 in
theorem gX6_weights_X6_no : GoodIn wsX6_weights (wsV RX6 118 RX6 yX6_no wsX6_no) := goodIn_app (goodIn_of _ (by decide +kernel)) ggX6_weights_X6_no
set_option maxRecDepth 20000 in
theorem ggX6_weights_X6_isIn : GoodIn wsX6_weights wsX6_isIn := goodIn_r _ [9] (by decide +kernel) (by decide +kernel)
set_option maxRecDepth 20000 in
theorem gX6_weights_X6_isIn : GoodIn wsX6_weights (va_wsS RX6 60 yX6_isIn wsX6_isIn) := goodIn_app (goodIn_of _ (by decide +kernel)) ggX6_weights_X6_isIn
theorem dX6_weights_0 : decode cX6_weights 0 = .ok (.aload_n 0, 1) := by decide +kernel
theorem dX6_weights_1 : decode cX6_weights 1 = .ok (.iconst 0, 1) := by decide +kernel
theorem dX6_weights_2 : decode cX6_weights 2 = .ok (.putfield 57, 3) := by decide +kernel
theorem dX6_weights_5 : decode cX6_weights 5 = .ok (.iload_n 1, 1) := by decide +kernel
theorem dX6_weights_6 : decode cX6_weights 6 = .ok (.invokestatic 115, 3) := by decide +kernel
theorem dX6_weights_9 : decode cX6_weights 9 = .ok (.ifCond .ne 9, 3) := by decide +kernel
theorem dX6_weights_12 : decode cX6_weights 12 = .ok (.aload_n 0, 1) := by decide +kernel
theorem dX6_weights_13 : decode cX6_weights 13 = .ok (.iconst 1, 1) := by decide +kernel
theorem dX6_weights_14 : decode cX6_weights 14 = .ok (.invokevirtual 118, 3) := by decide +kernel
theorem dX6_weights_17 : decode cX6_weights 17 = .ok (.ireturn, 1) := by decide +kernel
theorem dX6_weights_18 : decode cX6_weights 18 = .ok (.iload_n 2, 1) := by decide +kernel
theorem dX6_weights_19 : decode cX6_weights 19 = .ok (.iconst 0, 1) := by decide +kernel
theorem dX6_weights_20 : decode cX6_weights 20 = .ok (.bipush 9, 2) := by decide +kernel
theorem dX6_weights_22 : decode cX6_weights 22 = .ok (.invokestatic 60, 3) := by decide +kernel
theorem dX6_weights_25 : decode cX6_weights 25 = .ok (.ifCond .eq 24, 3) := by decide +kernel
theorem dX6_weights_28 : decode cX6_weights 28 = .ok (.iload_n 3, 1) := by decide +kernel
theorem dX6_weights_29 : decode cX6_weights 29 = .ok (.iconst 0, 1) := by decide +kernel
theorem dX6_weights_30 : decode cX6_weights 30 = .ok (.bipush 9, 2) := by decide +kernel
theorem dX6_weights_32 : decode cX6_weights 32 = .ok (.invokestatic 60, 3) := by decide +kernel
theorem dX6_weights_35 : decode cX6_weights 35 = .ok (.ifCond .eq 14, 3) := by decide +kernel
theorem dX6_weights_38 : decode cX6_weights 38 = .ok (.iload 4, 2) := by decide +kernel
theorem dX6_weights_40 : decode cX6_weights 40 = .ok (.iconst 0, 1) := by decide +kernel
theorem dX6_weights_41 : decode cX6_weights 41 = .ok (.bipush 9, 2) := by decide +kernel
theorem dX6_weights_43 : decode cX6_weights 43 = .ok (.invokestatic 60, 3) := by decide +kernel
theorem dX6_weights_46 : decode cX6_weights 46 = .ok (.ifCond .ne 9, 3) := by decide +kernel
theorem dX6_weights_49 : decode cX6_weights 49 = .ok (.aload_n 0, 1) := by decide +kernel
theorem dX6_weights_50 : decode cX6_weights 50 = .ok (.iconst 2, 1) := by decide +kernel
theorem dX6_weights_51 : decode cX6_weights 51 = .ok (.invokevirtual 118, 3) := by decide +kernel
theorem dX6_weights_54 : decode cX6_weights 54 = .ok (.ireturn, 1) := by decide +kernel
theorem dX6_weights_55 : decode cX6_weights 55 = .ok (.aload_n 0, 1) := by decide +kernel
theorem dX6_weights_56 : decode cX6_weights 56 = .ok (.getfield 30, 3) := by decide +kernel
theorem dX6_weights_59 : decode cX6_weights 59 = .ok (.iconst 3, 1) := by decide +kernel
theorem dX6_weights_60 : decode cX6_weights 60 = .ok (.iload_n 1, 1) := by decide +kernel
theorem dX6_weights_61 : decode cX6_weights 61 = .ok (.imul, 1) := by decide +kernel
theorem dX6_weights_62 : decode cX6_weights 62 = .ok (.iaload, 1) := by decide +kernel
theorem dX6_weights_63 : decode cX6_weights 63 = .ok (.aload_n 0, 1) := by decide +kernel
theorem dX6_weights_64 : decode cX6_weights 64 = .ok (.getfield 30, 3) := by decide +kernel
theorem dX6_weights_67 : decode cX6_weights 67 = .ok (.iconst 3, 1) := by decide +kernel
theorem dX6_weights_68 : decode cX6_weights 68 = .ok (.iload_n 1, 1) := by decide +kernel
theorem dX6_weights_69 : decode cX6_weights 69 = .ok (.imul, 1) := by decide +kernel
theorem dX6_weights_70 : decode cX6_weights 70 = .ok (.iconst 1, 1) := by decide +kernel
theorem dX6_weights_71 : decode cX6_weights 71 = .ok (.iadd, 1) := by decide +kernel
theorem dX6_weights_72 : decode cX6_weights 72 = .ok (.iaload, 1) := by decide +kernel
theorem dX6_weights_73 : decode cX6_weights 73 = .ok (.iadd, 1) := by decide +kernel
theorem dX6_weights_74 : decode cX6_weights 74 = .ok (.aload_n 0, 1) := by decide +kernel
theorem dX6_weights_75 : decode cX6_weights 75 = .ok (.getfield 30, 3) := by decide +kernel
theorem dX6_weights_78 : decode cX6_weights 78 = .ok (.iconst 3, 1) := by decide +kernel
theorem dX6_weights_79 : decode cX6_weights 79 = .ok (.iload_n 1, 1) := by decide +kernel
theorem dX6_weights_80 : decode cX6_weights 80 = .ok (.imul, 1) := by decide +kernel
theorem dX6_weights_81 : decode cX6_weights 81 = .ok (.iconst 2, 1) := by decide +kernel
theorem dX6_weights_82 : decode cX6_weights 82 = .ok (.iadd, 1) := by decide +kernel
theorem dX6_weights_83 : decode cX6_weights 83 = .ok (.iaload, 1) := by decide +kernel
theorem dX6_weights_84 : decode cX6_weights 84 = .ok (.iadd, 1) := by decide +kernel
theorem dX6_weights_85 : decode cX6_weights 85 = .ok (.istore 5, 2) := by decide +kernel
theorem dX6_weights_87 : decode cX6_weights 87 = .ok (.aload_n 0, 1) := by decide +kernel
theorem dX6_weights_88 : decode cX6_weights 88 = .ok (.getfield 30, 3) := by decide +kernel
theorem dX6_weights_91 : decode cX6_weights 91 = .ok (.iconst 3, 1) := by decide +kernel
theorem dX6_weights_92 : decode cX6_weights 92 = .ok (.iload_n 1, 1) := by decide +kernel
theorem dX6_weights_93 : decode cX6_weights 93 = .ok (.imul, 1) := by decide +kernel
theorem dX6_weights_94 : decode cX6_weights 94 = .ok (.iload_n 2, 1) := by decide +kernel
theorem dX6_weights_95 : decode cX6_weights 95 = .ok (.iastore, 1) := by decide +kernel
theorem dX6_weights_96 : decode cX6_weights 96 = .ok (.aload_n 0, 1) := by decide +kernel
theorem dX6_weights_97 : decode cX6_weights 97 = .ok (.getfield 30, 3) := by decide +kernel
theorem dX6_weights_100 : decode cX6_weights 100 = .ok (.iconst 3, 1) := by decide +kernel
theorem dX6_weights_101 : decode cX6_weights 101 = .ok (.iload_n 1, 1) := by decide +kernel
theorem dX6_weights_102 : decode cX6_weights 102 = .ok (.imul, 1) := by decide +kernel
theorem dX6_weights_103 : decode cX6_weights 103 = .ok (.iconst 1, 1) := by decide +kernel
theorem dX6_weights_104 : decode cX6_weights 104 = .ok (.iadd, 1) := by decide +kernel
theorem dX6_weights_105 : decode cX6_weights 105 = .ok (.iload_n 3, 1) := by decide +kernel
theorem dX6_weights_106 : decode cX6_weights 106 = .ok (.iastore, 1) := by decide +kernel
theorem dX6_weights_107 : decode cX6_weights 107 = .ok (.aload_n 0, 1) := by decide +kernel
theorem dX6_weights_108 : decode cX6_weights 108 = .ok (.getfield 30, 3) := by decide +kernel
theorem dX6_weights_111 : decode cX6_weights 111 = .ok (.iconst 3, 1) := by decide +kernel
theorem dX6_weights_112 : decode cX6_weights 112 = .ok (.iload_n 1, 1) := by decide +kernel
theorem dX6_weights_113 : decode cX6_weights 113 = .ok (.imul, 1) := by decide +kernel
theorem dX6_weights_114 : decode cX6_weights 114 = .ok (.iconst 2, 1) := by decide +kernel
theorem dX6_weights_115 : decode cX6_weights 115 = .ok (.iadd, 1) := by decide +kernel
theorem dX6_weights_116 : decode cX6_weights 116 = .ok (.iload 4, 2) := by decide +kernel
theorem dX6_weights_118 : decode cX6_weights 118 = .ok (.iastore, 1) := by decide +kernel
theorem dX6_weights_119 : decode cX6_weights 119 = .ok (.iload 5, 2) := by decide +kernel
theorem dX6_weights_121 : decode cX6_weights 121 = .ok (.ireturn, 1) := by decide +kernel
set_option maxRecDepth 20000 in
theorem ggX6_draw_X6_isIn : GoodIn wsX6_draw wsX6_isIn := goodIn_r _ [6] (by decide +kernel) (by decide +kernel)
set_option maxRecDepth 20000 in
theorem gX6_draw_X6_isIn : GoodIn wsX6_draw (va_wsS RX6 60 yX6_isIn wsX6_isIn) := goodIn_app (goodIn_of _ (by decide +kernel)) ggX6_draw_X6_isIn
set_option maxRecDepth 20000 in
theorem ggX6_draw_X6_no : GoodIn wsX6_draw wsX6_no := goodIn_r _ [10, 1, 11, 12, 13, 14, 15, 16, 17, 18, 19, 20, 21, 22, 23, 24, 25, 26, 27, 28] (by decide +kernel) (by decide +kernel)
set_option maxRecDepth 20000 in
theorem gX6_draw_X6_no : GoodIn wsX6_draw (wsV RX6 118 RX6 yX6_no wsX6_no) := goodIn_app (goodIn_of _ (by decide +kernel)) ggX6_draw_X6_no
theorem dX6_draw_0 : decode cX6_draw 0 = .ok (.aload_n 0, 1) := by decide +kernel
theorem dX6_draw_1 : decode cX6_draw 1 = .ok (.iconst 0, 1) := by decide +kernel
theorem dX6_draw_2 : decode cX6_draw 2 = .ok (.putfield 57, 3) := by decide +kernel
theorem dX6_draw_5 : decode cX6_draw 5 = .ok (.iload_n 1, 1) := by decide +kernel
theorem dX6_draw_6 : decode cX6_draw 6 = .ok (.iconst 0, 1) := by decide +kernel
theorem dX6_draw_7 : decode cX6_draw 7 = .ok (.sipush 9999, 3) := by decide +kernel
theorem dX6_draw_10 : decode cX6_draw 10 = .ok (.invokestatic 60, 3) := by decide +kernel
theorem dX6_draw_13 : decode cX6_draw 13 = .ok (.ifCond .ne 9, 3) := by decide +kernel
theorem dX6_draw_16 : decode cX6_draw 16 = .ok (.aload_n 0, 1) := by decide +kernel
theorem dX6_draw_17 : decode cX6_draw 17 = .ok (.iconst 1, 1) := by decide +kernel
theorem dX6_draw_18 : decode cX6_draw 18 = .ok (.invokevirtual 118, 3) := by decide +kernel
theorem dX6_draw_21 : decode cX6_draw 21 = .ok (.ireturn, 1) := by decide +kernel
theorem dX6_draw_22 : decode cX6_draw 22 = .ok (.aload_n 0, 1) := by decide +kernel
theorem dX6_draw_23 : decode cX6_draw 23 = .ok (.getfield 26, 3) := by decide +kernel
theorem dX6_draw_26 : decode cX6_draw 26 = .ok (.istore_n 2, 1) := by decide +kernel
theorem dX6_draw_27 : decode cX6_draw 27 = .ok (.aload_n 0, 1) := by decide +kernel
theorem dX6_draw_28 : decode cX6_draw 28 = .ok (.iload_n 1, 1) := by decide +kernel
theorem dX6_draw_29 : decode cX6_draw 29 = .ok (.putfield 26, 3) := by decide +kernel
theorem dX6_draw_32 : decode cX6_draw 32 = .ok (.iload_n 2, 1) := by decide +kernel
theorem dX6_draw_33 : decode cX6_draw 33 = .ok (.ireturn, 1) := by decide +kernel
theorem dX6_drawn_0 : decode cX6_drawn 0 = .ok (.aload_n 0, 1) := by decide +kernel
theorem dX6_drawn_1 : decode cX6_drawn 1 = .ok (.aload_n 0, 1) := by decide +kernel
theorem dX6_drawn_2 : decode cX6_drawn 2 = .ok (.getfield 26, 3) := by decide +kernel
theorem dX6_drawn_5 : decode cX6_drawn 5 = .ok (.sipush 421, 3) := by decide +kernel
theorem dX6_drawn_8 : decode cX6_drawn 8 = .ok (.imul, 1) := by decide +kernel
theorem dX6_drawn_9 : decode cX6_drawn 9 = .ok (.sipush 1663, 3) := by decide +kernel
theorem dX6_drawn_12 : decode cX6_drawn 12 = .ok (.iadd, 1) := by decide +kernel
theorem dX6_drawn_13 : decode cX6_drawn 13 = .ok (.sipush 10000, 3) := by decide +kernel
theorem dX6_drawn_16 : decode cX6_drawn 16 = .ok (.irem, 1) := by decide +kernel
theorem dX6_drawn_17 : decode cX6_drawn 17 = .ok (.putfield 26, 3) := by decide +kernel
theorem dX6_drawn_20 : decode cX6_drawn 20 = .ok (.aload_n 0, 1) := by decide +kernel
theorem dX6_drawn_21 : decode cX6_drawn 21 = .ok (.getfield 26, 3) := by decide +kernel
theorem dX6_drawn_24 : decode cX6_drawn 24 = .ok (.bipush 100, 2) := by decide +kernel
theorem dX6_drawn_26 : decode cX6_drawn 26 = .ok (.idiv, 1) := by decide +kernel
theorem dX6_drawn_27 : decode cX6_drawn 27 = .ok (.iload_n 1, 1) := by decide +kernel
theorem dX6_drawn_28 : decode cX6_drawn 28 = .ok (.irem, 1) := by decide +kernel
theorem dX6_drawn_29 : decode cX6_drawn 29 = .ok (.ireturn, 1) := by decide +kernel
set_option maxRecDepth 20000 in
theorem ggX6_make_X6_drawn : GoodIn wsX6_make wsX6_drawn := goodIn_r _ [6, 7, 8, 9, 10, 11, 12, 13, 14, 15, 16, 17, 18, 19, 20, 21, 22, 23, 24, 25] (by decide +kernel) (by decide +kernel)
set_option maxRecDepth 20000 in
theorem gX6_make_X6_drawn : GoodIn wsX6_make (wsV RX6 130 RX6 yX6_drawn wsX6_drawn) := goodIn_app (goodIn_of _ (by decide +kernel)) ggX6_make_X6_drawn
theorem dX6_make_0 : decode cX6_make 0 = .ok (.iconst 0, 1) := by decide +kernel
theorem dX6_make_1 : decode cX6_make 1 = .ok (.istore_n 1, 1) := by decide +kernel
theorem dX6_make_2 : decode cX6_make 2 = .ok (.iconst 0, 1) := by decide +kernel
theorem dX6_make_3 : decode cX6_make 3 = .ok (.istore_n 2, 1) := by decide +kernel
theorem dX6_make_4 : decode cX6_make 4 = .ok (.iload_n 2, 1) := by decide +kernel
theorem dX6_make_5 : decode cX6_make 5 = .ok (.iconst 4, 1) := by decide +kernel
theorem dX6_make_6 : decode cX6_make 6 = .ok (.if_icmp .ge 112, 3) := by decide +kernel
theorem dX6_make_9 : decode cX6_make 9 = .ok (.aload_n 0, 1) := by decide +kernel
theorem dX6_make_10 : decode cX6_make 10 = .ok (.getfield 30, 3) := by decide +kernel
theorem dX6_make_13 : decode cX6_make 13 = .ok (.iconst 3, 1) := by decide +kernel
theorem dX6_make_14 : decode cX6_make 14 = .ok (.iload_n 2, 1) := by decide +kernel
theorem dX6_make_15 : decode cX6_make 15 = .ok (.imul, 1) := by decide +kernel
theorem dX6_make_16 : decode cX6_make 16 = .ok (.iaload, 1) := by decide +kernel
theorem dX6_make_17 : decode cX6_make 17 = .ok (.istore_n 3, 1) := by decide +kernel
theorem dX6_make_18 : decode cX6_make 18 = .ok (.iload_n 3, 1) := by decide +kernel
theorem dX6_make_19 : decode cX6_make 19 = .ok (.aload_n 0, 1) := by decide +kernel
theorem dX6_make_20 : decode cX6_make 20 = .ok (.getfield 30, 3) := by decide +kernel
theorem dX6_make_23 : decode cX6_make 23 = .ok (.iconst 3, 1) := by decide +kernel
theorem dX6_make_24 : decode cX6_make 24 = .ok (.iload_n 2, 1) := by decide +kernel
theorem dX6_make_25 : decode cX6_make 25 = .ok (.imul, 1) := by decide +kernel
theorem dX6_make_26 : decode cX6_make 26 = .ok (.iconst 1, 1) := by decide +kernel
theorem dX6_make_27 : decode cX6_make 27 = .ok (.iadd, 1) := by decide +kernel
theorem dX6_make_28 : decode cX6_make 28 = .ok (.iaload, 1) := by decide +kernel
theorem dX6_make_29 : decode cX6_make 29 = .ok (.iadd, 1) := by decide +kernel
theorem dX6_make_30 : decode cX6_make 30 = .ok (.istore 4, 2) := by decide +kernel
theorem dX6_make_32 : decode cX6_make 32 = .ok (.iload 4, 2) := by decide +kernel
theorem dX6_make_34 : decode cX6_make 34 = .ok (.aload_n 0, 1) := by decide +kernel
theorem dX6_make_35 : decode cX6_make 35 = .ok (.getfield 30, 3) := by decide +kernel
theorem dX6_make_38 : decode cX6_make 38 = .ok (.iconst 3, 1) := by decide +kernel
theorem dX6_make_39 : decode cX6_make 39 = .ok (.iload_n 2, 1) := by decide +kernel
theorem dX6_make_40 : decode cX6_make 40 = .ok (.imul, 1) := by decide +kernel
