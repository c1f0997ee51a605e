theorem dX5_otherwise_0 : decode cX5_otherwise 0 = .ok (.iload_n 1, 1) := by decide +kernel
theorem dX5_otherwise_1 : decode cX5_otherwise 1 = .ok (.invokestatic 44, 3) := by decide +kernel
theorem dX5_otherwise_4 : decode cX5_otherwise 4 = .ok (.iload_n 2, 1) := by decide +kernel
theorem dX5_otherwise_5 : decode cX5_otherwise 5 = .ok (.iload_n 3, 1) := by decide +kernel
theorem dX5_otherwise_6 : decode cX5_otherwise 6 = .ok (.invokestatic 51, 3) := by decide +kernel
theorem dX5_otherwise_9 : decode cX5_otherwise 9 = .ok (.aload_n 0, 1) := by decide +kernel
theorem dX5_otherwise_10 : decode cX5_otherwise 10 = .ok (.getfield 10, 3) := by decide +kernel
theorem dX5_otherwise_13 : decode cX5_otherwise 13 = .ok (.getfield 240, 3) := by decide +kernel
theorem dX5_otherwise_16 : decode cX5_otherwise 16 = .ok (.iload_n 1, 1) := by decide +kernel
theorem dX5_otherwise_17 : decode cX5_otherwise 17 = .ok (.iaload, 1) := by decide +kernel
theorem dX5_otherwise_18 : decode cX5_otherwise 18 = .ok (.istore 4, 2) := by decide +kernel
theorem dX5_otherwise_20 : decode cX5_otherwise 20 = .ok (.aload_n 0, 1) := by decide +kernel
theorem dX5_otherwise_21 : decode cX5_otherwise 21 = .ok (.getfield 10, 3) := by decide +kernel
theorem dX5_otherwise_24 : decode cX5_otherwise 24 = .ok (.getfield 243, 3) := by decide +kernel
theorem dX5_otherwise_27 : decode cX5_otherwise 27 = .ok (.iload_n 1, 1) := by decide +kernel
theorem dX5_otherwise_28 : decode cX5_otherwise 28 = .ok (.iaload, 1) := by decide +kernel
theorem dX5_otherwise_29 : decode cX5_otherwise 29 = .ok (.istore 5, 2) := by decide +kernel
theorem dX5_otherwise_31 : decode cX5_otherwise 31 = .ok (.aload_n 0, 1) := by decide +kernel
theorem dX5_otherwise_32 : decode cX5_otherwise 32 = .ok (.getfield 10, 3) := by decide +kernel
theorem dX5_otherwise_35 : decode cX5_otherwise 35 = .ok (.getfield 246, 3) := by decide +kernel
theorem dX5_otherwise_38 : decode cX5_otherwise 38 = .ok (.iload_n 1, 1) := by decide +kernel
theorem dX5_otherwise_39 : decode cX5_otherwise 39 = .ok (.iaload, 1) := by decide +kernel
theorem dX5_otherwise_40 : decode cX5_otherwise 40 = .ok (.istore 6, 2) := by decide +kernel
theorem dX5_otherwise_42 : decode cX5_otherwise 42 = .ok (.aload_n 0, 1) := by decide +kernel
theorem dX5_otherwise_43 : decode cX5_otherwise 43 = .ok (.getfield 10, 3) := by decide +kernel
theorem dX5_otherwise_46 : decode cX5_otherwise 46 = .ok (.iload_n 1, 1) := by decide +kernel
theorem dX5_otherwise_47 : decode cX5_otherwise 47 = .ok (.iload 4, 2) := by decide +kernel
theorem dX5_otherwise_49 : decode cX5_otherwise 49 = .ok (.iload_n 2, 1) := by decide +kernel
theorem dX5_otherwise_50 : decode cX5_otherwise 50 = .ok (.iload_n 3, 1) := by decide +kernel
theorem dX5_otherwise_51 : decode cX5_otherwise 51 = .ok (.invokevirtual 55, 3) := by decide +kernel
theorem dX5_otherwise_54 : decode cX5_otherwise 54 = .ok (.iconst 0, 1) := by decide +kernel
theorem dX5_otherwise_55 : decode cX5_otherwise 55 = .ok (.istore 7, 2) := by decide +kernel
theorem dX5_otherwise_57 : decode cX5_otherwise 57 = .ok (.iconst 0, 1) := by decide +kernel
theorem dX5_otherwise_58 : decode cX5_otherwise 58 = .ok (.istore 8, 2) := by decide +kernel
theorem dX5_otherwise_60 : decode cX5_otherwise 60 = .ok (.iload 8, 2) := by decide +kernel
theorem dX5_otherwise_62 : decode cX5_otherwise 62 = .ok (.aload_n 0, 1) := by decide +kernel
theorem dX5_otherwise_63 : decode cX5_otherwise 63 = .ok (.getfield 33, 3) := by decide +kernel
theorem dX5_otherwise_66 : decode cX5_otherwise 66 = .ok (.getfield 151, 3) := by decide +kernel
theorem dX5_otherwise_69 : decode cX5_otherwise 69 = .ok (.if_icmp .ge 46, 3) := by decide +kernel
theorem dX5_otherwise_72 : decode cX5_otherwise 72 = .ok (.iload 8, 2) := by decide +kernel
theorem dX5_otherwise_74 : decode cX5_otherwise 74 = .ok (.bipush 40, 2) := by decide +kernel
theorem dX5_otherwise_76 : decode cX5_otherwise 76 = .ok (.if_icmp .ge 39, 3) := by decide +kernel
theorem dX5_otherwise_79 : decode cX5_otherwise 79 = .ok (.aload_n 0, 1) := by decide +kernel
theorem dX5_otherwise_80 : decode cX5_otherwise 80 = .ok (.aload_n 0, 1) := by decide +kernel
theorem dX5_otherwise_81 : decode cX5_otherwise 81 = .ok (.getfield 33, 3) := by decide +kernel
theorem dX5_otherwise_84 : decode cX5_otherwise 84 = .ok (.getfield 145, 3) := by decide +kernel
theorem dX5_otherwise_87 : decode cX5_otherwise 87 = .ok (.iload 8, 2) := by decide +kernel
theorem dX5_otherwise_89 : decode cX5_otherwise 89 = .ok (.iaload, 1) := by decide +kernel
theorem dX5_otherwise_90 : decode cX5_otherwise 90 = .ok (.invokevirtual 77, 3) := by decide +kernel
theorem dX5_otherwise_93 : decode cX5_otherwise 93 = .ok (.aload_n 0, 1) := by decide +kernel
theorem dX5_otherwise_94 : decode cX5_otherwise 94 = .ok (.getfield 33, 3) := by decide +kernel
theorem dX5_otherwise_97 : decode cX5_otherwise 97 = .ok (.getfield 165, 3) := by decide +kernel
theorem dX5_otherwise_100 : decode cX5_otherwise 100 = .ok (.iload 8, 2) := by decide +kernel
theorem dX5_otherwise_102 : decode cX5_otherwise 102 = .ok (.iaload, 1) := by decide +kernel
theorem dX5_otherwise_103 : decode cX5_otherwise 103 = .ok (.if_icmp .eq 6, 3) := by decide +kernel
theorem dX5_otherwise_106 : decode cX5_otherwise 106 = .ok (.iinc 7 1, 3) := by decide +kernel
theorem dX5_otherwise_109 : decode cX5_otherwise 109 = .ok (.iinc 8 1, 3) := by decide +kernel
theorem dX5_otherwise_112 : decode cX5_otherwise 112 = .ok (.goto (-52), 3) := by decide +kernel
theorem dX5_otherwise_115 : decode cX5_otherwise 115 = .ok (.aload_n 0, 1) := by decide +kernel
theorem dX5_otherwise_116 : decode cX5_otherwise 116 = .ok (.getfield 10, 3) := by decide +kernel
theorem dX5_otherwise_119 : decode cX5_otherwise 119 = .ok (.iload_n 1, 1) := by decide +kernel
theorem dX5_otherwise_120 : decode cX5_otherwise 120 = .ok (.iload 4, 2) := by decide +kernel
theorem dX5_otherwise_122 : decode cX5_otherwise 122 = .ok (.iload 5, 2) := by decide +kernel
theorem dX5_otherwise_124 : decode cX5_otherwise 124 = .ok (.iload 6, 2) := by decide +kernel
theorem dX5_otherwise_126 : decode cX5_otherwise 126 = .ok (.invokevirtual 55, 3) := by decide +kernel
theorem dX5_otherwise_129 : decode cX5_otherwise 129 = .ok (.iload 7, 2) := by decide +kernel
theorem dX5_otherwise_131 : decode cX5_otherwise 131 = .ok (.ireturn, 1) := by decide +kernel
set_option maxRecDepth 20000 in
theorem ggX5_fewest_X0_allKnown : GoodIn wsX5_fewest wsX0_allKnown := goodIn_r _ [7, 8, 9, 10, 11, 32, 33, 34, 35, 36, 37] (by decide +kernel) (by decide +kernel)
set_option maxRecDepth 20000 in
theorem gX5_fewest_X0_allKnown : GoodIn wsX5_fewest (wsV RX5 201 RX0 yX0_allKnown wsX0_allKnown) := goodIn_app (goodIn_of _ (by decide +kernel)) ggX5_fewest_X0_allKnown
set_option maxRecDepth 20000 in
theorem ggX5_fewest_X0_foundBy : GoodIn wsX5_fewest wsX0_foundBy := goodIn_r _ [15, 16, 17, 10, 18, 32, 33, 34, 35, 36, 37] (by decide +kernel) (by decide +kernel)
set_option maxRecDepth 20000 in
theorem gX5_fewest_X0_foundBy : GoodIn wsX5_fewest (wsV RX5 197 RX0 yX0_foundBy wsX0_foundBy) := goodIn_app (goodIn_of _ (by decide +kernel)) ggX5_fewest_X0_foundBy
set_option maxRecDepth 20000 in
theorem ggX5_fewest_X5_fewestFrom : GoodIn wsX5_fewest wsX5_fewestFrom := goodIn_r _ [21, 22, 23, 24, 25, 26, 19, 20, 10] (by decide +kernel) (by decide +kernel)
set_option maxRecDepth 20000 in
theorem gX5_fewest_X5_fewestFrom : GoodIn wsX5_fewest (va_wsS RX5 251 yX5_fewestFrom wsX5_fewestFrom) := goodIn_app (goodIn_of _ (by decide +kernel)) ggX5_fewest_X5_fewestFrom
theorem dX5_fewest_0 : decode cX5_fewest 0 = .ok (.aload_n 0, 1) := by decide +kernel
theorem dX5_fewest_1 : decode cX5_fewest 1 = .ok (.getfield 33, 3) := by decide +kernel
theorem dX5_fewest_4 : decode cX5_fewest 4 = .ok (.getfield 151, 3) := by decide +kernel
theorem dX5_fewest_7 : decode cX5_fewest 7 = .ok (.bipush 12, 2) := by decide +kernel
theorem dX5_fewest_9 : decode cX5_fewest 9 = .ok (.if_icmp .le 5, 3) := by decide +kernel
theorem dX5_fewest_12 : decode cX5_fewest 12 = .ok (.iconst (-1), 1) := by decide +kernel
theorem dX5_fewest_13 : decode cX5_fewest 13 = .ok (.ireturn, 1) := by decide +kernel
theorem dX5_fewest_14 : decode cX5_fewest 14 = .ok (.aload_n 0, 1) := by decide +kernel
theorem dX5_fewest_15 : decode cX5_fewest 15 = .ok (.getfield 33, 3) := by decide +kernel
theorem dX5_fewest_18 : decode cX5_fewest 18 = .ok (.aload_n 0, 1) := by decide +kernel
theorem dX5_fewest_19 : decode cX5_fewest 19 = .ok (.getfield 33, 3) := by decide +kernel
theorem dX5_fewest_22 : decode cX5_fewest 22 = .ok (.invokevirtual 201, 3) := by decide +kernel
theorem dX5_fewest_25 : decode cX5_fewest 25 = .ok (.invokevirtual 197, 3) := by decide +kernel
theorem dX5_fewest_28 : decode cX5_fewest 28 = .ok (.ldc2_w 249, 3) := by decide +kernel
theorem dX5_fewest_31 : decode cX5_fewest 31 = .ok (.land, 1) := by decide +kernel
theorem dX5_fewest_32 : decode cX5_fewest 32 = .ok (.lstore_n 1, 1) := by decide +kernel
theorem dX5_fewest_33 : decode cX5_fewest 33 = .ok (.aload_n 0, 1) := by decide +kernel
theorem dX5_fewest_34 : decode cX5_fewest 34 = .ok (.getfield 33, 3) := by decide +kernel
theorem dX5_fewest_37 : decode cX5_fewest 37 = .ok (.getfield 168, 3) := by decide +kernel
theorem dX5_fewest_40 : decode cX5_fewest 40 = .ok (.aload_n 0, 1) := by decide +kernel
theorem dX5_fewest_41 : decode cX5_fewest 41 = .ok (.getfield 33, 3) := by decide +kernel
theorem dX5_fewest_44 : decode cX5_fewest 44 = .ok (.getfield 151, 3) := by decide +kernel
theorem dX5_fewest_47 : decode cX5_fewest 47 = .ok (.iconst 0, 1) := by decide +kernel
theorem dX5_fewest_48 : decode cX5_fewest 48 = .ok (.lload_n 1, 1) := by decide +kernel
theorem dX5_fewest_49 : decode cX5_fewest 49 = .ok (.iconst 0, 1) := by decide +kernel
theorem dX5_fewest_50 : decode cX5_fewest 50 = .ok (.aload_n 0, 1) := by decide +kernel
theorem dX5_fewest_51 : decode cX5_fewest 51 = .ok (.getfield 33, 3) := by decide +kernel
theorem dX5_fewest_54 : decode cX5_fewest 54 = .ok (.getfield 151, 3) := by decide +kernel
theorem dX5_fewest_57 : decode cX5_fewest 57 = .ok (.invokestatic 251, 3) := by decide +kernel
theorem dX5_fewest_60 : decode cX5_fewest 60 = .ok (.ireturn, 1) := by decide +kernel
set_option maxRecDepth 20000 in
theorem ggX5_smallest_X5_checkEdge : GoodIn wsX5_smallest wsX5_checkEdge := goodIn_ca (goodIn_r _ [6, 7, 8] (by decide +kernel) (by decide +kernel)) (goodIn_sub (fun _ h => List.mem_cons_of_mem _ (List.mem_append_left _ (List.mem_append_right _ h))) (by decide +kernel))
set_option maxRecDepth 20000 in
theorem gX5_smallest_X5_checkEdge : GoodIn wsX5_smallest (va_wsS RX5 178 yX5_checkEdge wsX5_checkEdge) := goodIn_app (goodIn_of _ (by decide +kernel)) ggX5_smallest_X5_checkEdge
set_option maxRecDepth 20000 in
theorem ggX5_smallest_X5_checkCase : GoodIn wsX5_smallest wsX5_checkCase := goodIn_ca (goodIn_r _ [11, 12, 13] (by decide +kernel) (by decide +kernel)) (goodIn_sub (fun _ h => List.mem_cons_of_mem _ (List.mem_append_right _ h)) (by decide +kernel))
set_option maxRecDepth 20000 in
theorem gX5_smallest_X5_checkCase : GoodIn wsX5_smallest (va_wsS RX5 74 yX5_checkCase wsX5_checkCase) := goodIn_app (goodIn_of _ (by decide +kernel)) ggX5_smallest_X5_checkCase
set_option maxRecDepth 20000 in
theorem ggX5_smallest_X2_follow : GoodIn wsX5_smallest wsX2_follow := goodIn_r _ [18, 19, 20, 21, 22, 23, 24, 25, 26, 27, 28, 29, 5, 30, 31, 32, 33, 17, 34, 35, 36, 37, 38, 39, 40, 41, 42, 43, 44, 45, 46, 47, 48, 49, 50, 51, 52, 65, 66, 67, 68, 69, 61, 62, 63, 64] (by decide +kernel) (by decide +kernel)
set_option maxRecDepth 20000 in
theorem gX5_smallest_X2_follow : GoodIn wsX5_smallest (wsV RX5 81 RX2 yX2_follow wsX2_follow) := goodIn_app (goodIn_of _ (by decide +kernel)) ggX5_smallest_X2_follow
set_option maxRecDepth 20000 in
theorem ggX5_smallest_X5_contains : GoodIn wsX5_smallest wsX5_contains := goodIn_r _ [55] (by decide +kernel) (by decide +kernel)
set_option maxRecDepth 20000 in
theorem gX5_smallest_X5_contains : GoodIn wsX5_smallest (va_wsS RX5 255 yX5_contains wsX5_contains) := goodIn_app (goodIn_of _ (by decide +kernel)) ggX5_smallest_X5_contains
theorem dX5_smallest_0 : decode cX5_smallest 0 = .ok (.iload_n 1, 1) := by decide +kernel
theorem dX5_smallest_1 : decode cX5_smallest 1 = .ok (.invokestatic 178, 3) := by decide +kernel
theorem dX5_smallest_4 : decode cX5_smallest 4 = .ok (.iload_n 2, 1) := by decide +kernel
theorem dX5_smallest_5 : decode cX5_smallest 5 = .ok (.invokestatic 74, 3) := by decide +kernel
theorem dX5_smallest_8 : decode cX5_smallest 8 = .ok (.iload_n 2, 1) := by decide +kernel
theorem dX5_smallest_9 : decode cX5_smallest 9 = .ok (.iload_n 2, 1) := by decide +kernel
theorem dX5_smallest_10 : decode cX5_smallest 10 = .ok (.bipush 100, 2) := by decide +kernel
theorem dX5_smallest_12 : decode cX5_smallest 12 = .ok (.irem, 1) := by decide +kernel
theorem dX5_smallest_13 : decode cX5_smallest 13 = .ok (.isub, 1) := by decide +kernel
theorem dX5_smallest_14 : decode cX5_smallest 14 = .ok (.istore_n 3, 1) := by decide +kernel
theorem dX5_smallest_15 : decode cX5_smallest 15 = .ok (.iload_n 3, 1) := by decide +kernel
theorem dX5_smallest_16 : decode cX5_smallest 16 = .ok (.istore 4, 2) := by decide +kernel
theorem dX5_smallest_18 : decode cX5_smallest 18 = .ok (.iload 4, 2) := by decide +kernel
theorem dX5_smallest_20 : decode cX5_smallest 20 = .ok (.iload_n 3, 1) := by decide +kernel
theorem dX5_smallest_21 : decode cX5_smallest 21 = .ok (.bipush 100, 2) := by decide +kernel
theorem dX5_smallest_23 : decode cX5_smallest 23 = .ok (.iadd, 1) := by decide +kernel
theorem dX5_smallest_24 : decode cX5_smallest 24 = .ok (.if_icmp .ge 39, 3) := by decide +kernel
theorem dX5_smallest_27 : decode cX5_smallest 27 = .ok (.aload_n 0, 1) := by decide +kernel
theorem dX5_smallest_28 : decode cX5_smallest 28 = .ok (.getfield 10, 3) := by decide +kernel
theorem dX5_smallest_31 : decode cX5_smallest 31 = .ok (.iload 4, 2) := by decide +kernel
theorem dX5_smallest_33 : decode cX5_smallest 33 = .ok (.aload_n 0, 1) := by decide +kernel
theorem dX5_smallest_34 : decode cX5_smallest 34 = .ok (.getfield 19, 3) := by decide +kernel
theorem dX5_smallest_37 : decode cX5_smallest 37 = .ok (.invokevirtual 81, 3) := by decide +kernel
theorem dX5_smallest_40 : decode cX5_smallest 40 = .ok (.aload_n 0, 1) := by decide +kernel
theorem dX5_smallest_41 : decode cX5_smallest 41 = .ok (.getfield 19, 3) := by decide +kernel
theorem dX5_smallest_44 : decode cX5_smallest 44 = .ok (.getfield 100, 3) := by decide +kernel
theorem dX5_smallest_47 : decode cX5_smallest 47 = .ok (.iload_n 1, 1) := by decide +kernel
theorem dX5_smallest_48 : decode cX5_smallest 48 = .ok (.invokestatic 255, 3) := by decide +kernel
theorem dX5_smallest_51 : decode cX5_smallest 51 = .ok (.ifCond .eq 6, 3) := by decide +kernel
theorem dX5_smallest_54 : decode cX5_smallest 54 = .ok (.iload 4, 2) := by decide +kernel
theorem dX5_smallest_56 : decode cX5_smallest 56 = .ok (.ireturn, 1) := by decide +kernel
theorem dX5_smallest_57 : decode cX5_smallest 57 = .ok (.iinc 4 1, 3) := by decide +kernel
theorem dX5_smallest_60 : decode cX5_smallest 60 = .ok (.goto (-42), 3) := by decide +kernel
theorem dX5_smallest_63 : decode cX5_smallest 63 = .ok (.iconst (-1), 1) := by decide +kernel
theorem dX5_smallest_64 : decode cX5_smallest 64 = .ok (.ireturn, 1) := by decide +kernel
set_option maxRecDepth 20000 in
theorem ggX5_ahead_X1_nextCase : GoodIn wsX5_ahead wsX1_nextCase := goodIn_r _ [8, 9, 10, 11, 7, 12, 13, 14, 15, 16, 17, 18, 19, 20, 21, 22, 23, 24, 85, 86, 87, 88] (by decide +kernel) (by decide +kernel)
set_option maxRecDepth 20000 in
theorem gX5_ahead_X1_nextCase : GoodIn wsX5_ahead (wsV RX5 128 RX1 yX1_nextCase wsX1_nextCase) := goodIn_app (goodIn_of _ (by decide +kernel)) ggX5_ahead_X1_nextCase
set_option maxRecDepth 20000 in
theorem ggX5_ahead_X5_resultOf : GoodIn wsX5_ahead wsX5_resultOf := goodIn_r _ [29, 30, 31, 32, 33, 34, 35, 36, 37, 38, 39, 40, 41, 42, 43, 44, 45, 46, 47, 28, 48, 49, 50, 51, 52, 53, 54, 55, 56, 57, 58, 59, 60, 61, 62, 63, 64, 65, 66, 67, 68, 69, 70, 80, 81, 82, 83, 84, 89, 90, 91, 92, 93, 94, 95, 96, 97] (by decide +kernel) (by decide +kernel)
set_option maxRecDepth 20000 in
theorem gX5_ahead_X5_resultOf : GoodIn wsX5_ahead (wsV RX5 77 RX5 yX5_resultOf wsX5_resultOf) := goodIn_app (goodIn_of _ (by decide +kernel)) ggX5_ahead_X5_resultOf
set_option maxRecDepth 20000 in
theorem ggX5_ahead_X5_outcomeOf : GoodIn wsX5_ahead wsX5_outcomeOf := goodIn_r _ [70] (by decide +kernel) (by decide +kernel)
set_option maxRecDepth 20000 in
theorem gX5_ahead_X5_outcomeOf : GoodIn wsX5_ahead (va_wsS RX5 261 yX5_outcomeOf wsX5_outcomeOf) := goodIn_app (goodIn_of _ (by decide +kernel)) ggX5_ahead_X5_outcomeOf
set_option maxRecDepth 20000 in
theorem ggX5_ahead_X5_bit : GoodIn wsX5_ahead wsX5_bit := goodIn_r _ [64] (by decide +kernel) (by decide +kernel)
set_option maxRecDepth 20000 in
theorem gX5_ahead_X5_bit : GoodIn wsX5_ahead (va_wsS RX5 264 yX5_bit wsX5_bit) := goodIn_app (goodIn_of _ (by decide +kernel)) ggX5_ahead_X5_bit
set_option maxRecDepth 20000 in
theorem ggX5_ahead_J13_bitCount_95d88 : GoodIn wsX5_ahead wsJ13_bitCount_95d88 := goodIn_r _ [76, 77, 78, 79] (by decide +kernel) (by decide +kernel)
set_option maxRecDepth 20000 in
theorem gX5_ahead_J13_bitCount_95d88 : GoodIn wsX5_ahead (va_wsS RX5 187 yJ13_bitCount_95d88 wsJ13_bitCount_95d88) := goodIn_app (goodIn_of _ (by decide +kernel)) ggX5_ahead_J13_bitCount_95d88
theorem dX5_ahead_0 : decode cX5_ahead 0 = .ok (.iload_n 1, 1) := by decide +kernel
theorem dX5_ahead_1 : decode cX5_ahead 1 = .ok (.iconst 1, 1) := by decide +kernel
theorem dX5_ahead_2 : decode cX5_ahead 2 = .ok (.if_icmp .lt 9, 3) := by decide +kernel
theorem dX5_ahead_5 : decode cX5_ahead 5 = .ok (.iload_n 1, 1) := by decide +kernel
theorem dX5_ahead_6 : decode cX5_ahead 6 = .ok (.bipush 50, 2) := by decide +kernel
theorem dX5_ahead_8 : decode cX5_ahead 8 = .ok (.if_icmp .le 14, 3) := by decide +kernel
theorem dX5_ahead_11 : decode cX5_ahead 11 = .ok (.new 117, 3) := by decide +kernel
theorem dX5_ahead_14 : decode cX5_ahead 14 = .ok (.dup, 1) := by decide +kernel
theorem dX5_ahead_15 : decode cX5_ahead 15 = .ok (.ldc_w 259, 3) := by decide +kernel
theorem dX5_ahead_18 : decode cX5_ahead 18 = .ok (.invokespecial 121, 3) := by decide +kernel
theorem dX5_ahead_21 : decode cX5_ahead 21 = .ok (.athrow, 1) := by decide +kernel
theorem dX5_ahead_22 : decode cX5_ahead 22 = .ok (.aload_n 0, 1) := by decide +kernel
theorem dX5_ahead_23 : decode cX5_ahead 23 = .ok (.getfield 26, 3) := by decide +kernel
theorem dX5_ahead_26 : decode cX5_ahead 26 = .ok (.getfield 122, 3) := by decide +kernel
theorem dX5_ahead_29 : decode cX5_ahead 29 = .ok (.istore_n 2, 1) := by decide +kernel
theorem dX5_ahead_30 : decode cX5_ahead 30 = .ok (.lconst 0, 1) := by decide +kernel
theorem dX5_ahead_31 : decode cX5_ahead 31 = .ok (.lstore_n 3, 1) := by decide +kernel
theorem dX5_ahead_32 : decode cX5_ahead 32 = .ok (.iconst 0, 1) := by decide +kernel
theorem dX5_ahead_33 : decode cX5_ahead 33 = .ok (.istore 5, 2) := by decide +kernel
theorem dX5_ahead_35 : decode cX5_ahead 35 = .ok (.iload 5, 2) := by decide +kernel
theorem dX5_ahead_37 : decode cX5_ahead 37 = .ok (.iload_n 1, 1) := by decide +kernel
theorem dX5_ahead_38 : decode cX5_ahead 38 = .ok (.if_icmp .ge 29, 3) := by decide +kernel
theorem dX5_ahead_41 : decode cX5_ahead 41 = .ok (.lload_n 3, 1) := by decide +kernel
theorem dX5_ahead_42 : decode cX5_ahead 42 = .ok (.aload_n 0, 1) := by decide +kernel
theorem dX5_ahead_43 : decode cX5_ahead 43 = .ok (.aload_n 0, 1) := by decide +kernel
theorem dX5_ahead_44 : decode cX5_ahead 44 = .ok (.getfield 26, 3) := by decide +kernel
theorem dX5_ahead_47 : decode cX5_ahead 47 = .ok (.invokevirtual 128, 3) := by decide +kernel
theorem dX5_ahead_50 : decode cX5_ahead 50 = .ok (.invokevirtual 77, 3) := by decide +kernel
theorem dX5_ahead_53 : decode cX5_ahead 53 = .ok (.invokestatic 261, 3) := by decide +kernel
theorem dX5_ahead_56 : decode cX5_ahead 56 = .ok (.invokestatic 264, 3) := by decide +kernel
theorem dX5_ahead_59 : decode cX5_ahead 59 = .ok (.lor, 1) := by decide +kernel
theorem dX5_ahead_60 : decode cX5_ahead 60 = .ok (.lstore_n 3, 1) := by decide +kernel
theorem dX5_ahead_61 : decode cX5_ahead 61 = .ok (.iinc 5 1, 3) := by decide +kernel
theorem dX5_ahead_64 : decode cX5_ahead 64 = .ok (.goto (-29), 3) := by decide +kernel
theorem dX5_ahead_67 : decode cX5_ahead 67 = .ok (.aload_n 0, 1) := by decide +kernel
theorem dX5_ahead_68 : decode cX5_ahead 68 = .ok (.getfield 26, 3) := by decide +kernel
theorem dX5_ahead_71 : decode cX5_ahead 71 = .ok (.iload_n 2, 1) := by decide +kernel
theorem dX5_ahead_72 : decode cX5_ahead 72 = .ok (.putfield 122, 3) := by decide +kernel
theorem dX5_ahead_75 : decode cX5_ahead 75 = .ok (.lload_n 3, 1) := by decide +kernel
theorem dX5_ahead_76 : decode cX5_ahead 76 = .ok (.invokestatic 187, 3) := by decide +kernel
theorem dX5_ahead_79 : decode cX5_ahead 79 = .ok (.ireturn, 1) := by decide +kernel
set_option maxRecDepth 20000 in
theorem ggX5_digest_X5_many : GoodIn wsX5_digest wsX5_many := goodIn_ca (goodIn_r _ [8, 9, 10, 11, 3, 12, 13, 14, 15, 16, 17, 18, 19, 20, 21, 22, 23, 24, 25, 26, 27, 7, 28, 29, 30, 31, 32, 33, 34, 35, 36, 37, 38, 39, 40, 41, 42, 43, 44, 45, 46, 47, 48, 236, 237, 238, 239, 240, 245, 246, 247, 248, 249, 250, 241, 242, 243, 244, 251, 252, 253, 254, 255, 256, 257, 258, 259] (by decide +kernel) (by decide +kernel)) (goodIn_sub (fun _ h => List.mem_cons_of_mem _ (List.mem_append_left _ (List.mem_append_right _ h))) (by decide +kernel))
set_option maxRecDepth 20000 in
theorem gX5_digest_X5_many : GoodIn wsX5_digest (wsV RX5 271 RX5 yX5_many wsX5_many) := goodIn_app (goodIn_of _ (by decide +kernel)) ggX5_digest_X5_many
set_option maxRecDepth 20000 in
theorem ggX5_digest_X5_digestOfKnown : GoodIn wsX5_digest wsX5_digestOfKnown := goodIn_ca (goodIn_ca (goodIn_r _ [52, 11, 2, 53, 54, 55, 7, 56, 57, 58, 9, 10, 59, 60, 61, 24, 62, 63, 27, 28, 64, 65, 66, 67, 68, 69, 70, 71, 72, 73, 74, 75, 76, 77, 26, 78, 38, 39, 79, 22, 23, 25, 30, 31, 32, 14, 15, 16, 17, 18, 19, 20, 29, 80, 236, 237, 238, 239, 240, 245, 246, 247, 248, 249, 250] (by decide +kernel) (by decide +kernel)) (goodIn_sub (fun _ h => List.mem_cons_of_mem _ (List.mem_append_right _ h)) (by decide +kernel))) (goodIn_sub (fun _ h => List.mem_cons_of_mem _ (List.mem_append_left _ (List.mem_append_right _ h))) (by decide +kernel))
set_option maxRecDepth 20000 in
theorem gX5_digest_X5_digestOfKnown : GoodIn wsX5_digest (wsV RX5 274 RX5 yX5_digestOfKnown wsX5_digestOfKnown) := goodIn_app (goodIn_of _ (by decide +kernel)) ggX5_digest_X5_digestOfKnown
set_option maxRecDepth 20000 in
theorem ggX5_digest_X5_digestOfEdges : GoodIn wsX5_digest wsX5_digestOfEdges := goodIn_ca (goodIn_ca (goodIn_r _ [84, 2, 85, 86, 87, 7, 88, 9, 10, 11, 89, 90, 91, 57, 58, 92, 93, 94, 24, 95, 37, 26, 27, 28, 38, 39, 14, 15, 16, 17, 18, 19, 20, 96, 97, 98, 99, 100, 101, 102, 103, 236, 237, 238, 239, 240, 245, 246, 247, 248, 249, 250] (by decide +kernel) (by decide +kernel)) (goodIn_sub (fun _ h => List.mem_cons_of_mem _ (List.mem_append_left _ (List.mem_append_right _ h))) (by decide +kernel))) (goodIn_sub (fun _ h => List.mem_cons_of_mem _ (List.mem_append_right _ h)) (by decide +kernel))
set_option maxRecDepth 20000 in
theorem gX5_digest_X5_digestOfEdges : GoodIn wsX5_digest (wsV RX5 277 RX5 yX5_digestOfEdges wsX5_digestOfEdges) := goodIn_app (goodIn_of _ (by decide +kernel)) ggX5_digest_X5_digestOfEdges
set_option maxRecDepth 20000 in
theorem ggX5_digest_X5_brokenBy : GoodIn wsX5_digest wsX5_brokenBy := goodIn_ca (goodIn_r _ [107, 11, 3, 108, 109, 110, 7, 111, 57, 58, 112, 113, 114, 115, 116, 117, 118, 119, 120, 71, 121, 122, 123, 124, 125, 126, 127, 128, 129, 130, 131, 132, 133, 134, 13, 135, 136, 137, 138, 43, 139, 140, 45, 141, 142, 143, 144, 145, 146, 147, 148, 46, 47, 149, 150, 151, 152, 153, 154, 155, 156, 157, 158, 159, 160, 38, 39, 161, 162, 163, 164, 165, 166, 236, 237, 238, 239, 240, 245, 246, 247, 248, 249, 250, 241, 242, 243, 244, 260, 261, 262, 263, 255, 256, 257, 258, 259] (by decide +kernel) (by decide +kernel)) (goodIn_sub (fun _ h => List.mem_cons_of_mem _ (List.mem_append_right _ h)) (by decide +kernel))
set_option maxRecDepth 20000 in
theorem gX5_digest_X5_brokenBy : GoodIn wsX5_digest (wsV RX5 280 RX5 yX5_brokenBy wsX5_brokenBy) := goodIn_app (goodIn_of _ (by decide +kernel)) ggX5_digest_X5_brokenBy
set_option maxRecDepth 20000 in
theorem ggX5_digest_X5_fewest : GoodIn wsX5_digest wsX5_fewest := goodIn_r _ [170, 11, 32, 33, 34, 35, 24, 36, 37, 38, 7, 39, 21, 22, 23, 25, 26, 27, 28, 171, 172, 173, 174, 120, 71, 121, 175, 236, 237, 238, 239, 240, 245, 246, 247, 248, 249, 250] (by decide +kernel) (by decide +kernel)
set_option maxRecDepth 20000 in
theorem gX5_digest_X5_fewest : GoodIn wsX5_digest (wsV RX5 283 RX5 yX5_fewest wsX5_fewest) := goodIn_app (goodIn_of _ (by decide +kernel)) ggX5_digest_X5_fewest
set_option maxRecDepth 20000 in
theorem ggX5_digest_X5_ahead : GoodIn wsX5_digest wsX5_ahead := goodIn_ca (goodIn_r _ [179, 9, 10, 12, 180, 181, 182, 183, 184, 185, 186, 187, 188, 189, 190, 191, 192, 193, 194, 195, 196, 197, 198, 199, 200, 131, 132, 133, 7, 134, 13, 135, 136, 137, 138, 43, 139, 140, 45, 141, 142, 143, 144, 145, 146, 147, 148, 46, 47, 149, 150, 151, 152, 153, 154, 155, 123, 124, 156, 157, 158, 159, 160, 38, 39, 161, 162, 163, 164, 165, 166, 201, 202, 14, 15, 16, 17, 18, 19, 20, 236, 237, 238, 239, 240, 251, 252, 253, 254, 260, 261, 262, 263, 255, 256, 257, 258, 259] (by decide +kernel) (by decide +kernel)) (goodIn_sub (fun _ h => List.mem_cons_of_mem _ (List.mem_append_left _ (List.mem_append_right _ h))) (by decide +kernel))
set_option maxRecDepth 20000 in
theorem gX5_digest_X5_ahead : GoodIn wsX5_digest (wsV RX5 286 RX5 yX5_ahead wsX5_ahead) := goodIn_app (goodIn_of _ (by decide +kernel)) ggX5_digest_X5_ahead
set_option maxRecDepth 20000 in
theorem ggX5_digest_X5_run : GoodIn wsX5_digest wsX5_run := goodIn_ca (goodIn_r _ [206, 207, 208, 7, 209, 9, 10, 131, 132, 133, 134, 13, 135, 136, 137, 138, 43, 139, 140, 45, 141, 142, 143, 144, 145, 146, 147, 148, 46, 47, 149, 150, 151, 152, 153, 154, 155, 123, 124, 156, 157, 158, 159, 160, 38, 39, 161, 162, 163, 164, 165, 166, 236, 237, 238, 239, 240, 260, 261, 262, 263, 255, 256, 257, 258, 259] (by decide +kernel) (by decide +kernel)) (goodIn_sub (fun _ h => List.mem_cons_of_mem _ (List.mem_append_left _ (List.mem_append_right _ h))) (by decide +kernel))
set_option maxRecDepth 20000 in
theorem gX5_digest_X5_run : GoodIn wsX5_digest (wsV RX5 289 RX5 yX5_run wsX5_run) := goodIn_app (goodIn_of _ (by decide +kernel)) ggX5_digest_X5_run
set_option maxRecDepth 20000 in
theorem ggX5_digest_X5_covers : GoodIn wsX5_digest wsX5_covers := goodIn_ca (goodIn_r _ [213, 13, 135, 207, 208, 7, 209, 9, 10, 136, 137, 138, 43, 139, 140, 45, 141, 142, 143, 144, 145, 146, 147, 148, 46, 47, 149, 150, 151, 152, 153, 154, 155, 123, 124, 156, 157, 158, 159, 160, 38, 39, 161, 162, 163, 164, 165, 166, 29, 30, 31, 32, 14, 15, 16, 17, 18, 19, 20, 236, 237, 238, 239, 240, 260, 261, 262, 263, 255, 256, 257, 258, 259] (by decide +kernel) (by decide +kernel)) (goodIn_sub (fun _ h => List.mem_cons_of_mem _ (List.mem_append_left _ (List.mem_append_right _ h))) (by decide +kernel))
set_option maxRecDepth 20000 in
theorem gX5_digest_X5_covers : GoodIn wsX5_digest (wsV RX5 292 RX5 yX5_covers wsX5_covers) := goodIn_app (goodIn_of _ (by decide +kernel)) ggX5_digest_X5_covers
set_option maxRecDepth 20000 in
theorem ggX5_digest_X5_wouldDrop : GoodIn wsX5_digest wsX5_wouldDrop := goodIn_ca (goodIn_r _ [217, 13, 135, 11, 175, 207, 208, 7, 209, 9, 10, 136, 137, 138, 43, 139, 140, 45, 141, 142, 143, 144, 145, 146, 147, 148, 46, 47, 149, 150, 151, 152, 153, 154, 155, 123, 124, 156, 157, 158, 159, 160, 38, 39, 161, 162, 163, 164, 165, 166, 218, 219, 220, 24, 221, 37, 63, 222, 223, 224, 225, 226, 227, 228, 229, 230, 231, 26, 74, 75, 76, 77, 78, 79, 22, 23, 25, 27, 28, 232, 233, 234, 235, 14, 15, 16, 17, 18, 19, 20, 236, 237, 238, 239, 240, 245, 246, 247, 248, 249, 250, 255, 256, 257, 258, 259, 260, 261, 262, 263] (by decide +kernel) (by decide +kernel)) (goodIn_sub (fun _ h => List.mem_cons_of_mem _ (List.mem_append_left _ (List.mem_append_right _ h))) (by decide +kernel))
set_option maxRecDepth 20000 in
theorem gX5_digest_X5_wouldDrop : GoodIn wsX5_digest (wsV RX5 295 RX5 yX5_wouldDrop wsX5_wouldDrop) := goodIn_app (goodIn_of _ (by decide +kernel)) ggX5_digest_X5_wouldDrop
theorem dX5_digest_0 : decode cX5_digest 0 = .ok (.ldc2_w 267, 3) := by decide +kernel
theorem dX5_digest_3 : decode cX5_digest 3 = .ok (.lstore_n 1, 1) := by decide +kernel
theorem dX5_digest_4 : decode cX5_digest 4 = .ok (.iconst 0, 1) := by decide +kernel
theorem dX5_digest_5 : decode cX5_digest 5 = .ok (.istore_n 3, 1) := by decide +kernel
theorem dX5_digest_6 : decode cX5_digest 6 = .ok (.iload_n 3, 1) := by decide +kernel
theorem dX5_digest_7 : decode cX5_digest 7 = .ok (.bipush 7, 2) := by decide +kernel
theorem dX5_digest_9 : decode cX5_digest 9 = .ok (.if_icmp .gt 22, 3) := by decide +kernel
theorem dX5_digest_12 : decode cX5_digest 12 = .ok (.lload_n 1, 1) := by decide +kernel
theorem dX5_digest_13 : decode cX5_digest 13 = .ok (.ldc2_w 269, 3) := by decide +kernel
theorem dX5_digest_16 : decode cX5_digest 16 = .ok (.lmul, 1) := by decide +kernel
theorem dX5_digest_17 : decode cX5_digest 17 = .ok (.aload_n 0, 1) := by decide +kernel
theorem dX5_digest_18 : decode cX5_digest 18 = .ok (.iload_n 3, 1) := by decide +kernel
theorem dX5_digest_19 : decode cX5_digest 19 = .ok (.invokevirtual 271, 3) := by decide +kernel
theorem dX5_digest_22 : decode cX5_digest 22 = .ok (.i2l, 1) := by decide +kernel
theorem dX5_digest_23 : decode cX5_digest 23 = .ok (.ladd, 1) := by decide +kernel
theorem dX5_digest_24 : decode cX5_digest 24 = .ok (.lstore_n 1, 1) := by decide +kernel
theorem dX5_digest_25 : decode cX5_digest 25 = .ok (.iinc 3 1, 3) := by decide +kernel
theorem dX5_digest_28 : decode cX5_digest 28 = .ok (.goto (-22), 3) := by decide +kernel
theorem dX5_digest_31 : decode cX5_digest 31 = .ok (.aload_n 0, 1) := by decide +kernel
theorem dX5_digest_32 : decode cX5_digest 32 = .ok (.lload_n 1, 1) := by decide +kernel
theorem dX5_digest_33 : decode cX5_digest 33 = .ok (.invokevirtual 274, 3) := by decide +kernel
theorem dX5_digest_36 : decode cX5_digest 36 = .ok (.lstore_n 1, 1) := by decide +kernel
theorem dX5_digest_37 : decode cX5_digest 37 = .ok (.aload_n 0, 1) := by decide +kernel
theorem dX5_digest_38 : decode cX5_digest 38 = .ok (.lload_n 1, 1) := by decide +kernel
theorem dX5_digest_39 : decode cX5_digest 39 = .ok (.invokevirtual 277, 3) := by decide +kernel
theorem dX5_digest_42 : decode cX5_digest 42 = .ok (.lstore_n 1, 1) := by decide +kernel
theorem dX5_digest_43 : decode cX5_digest 43 = .ok (.iconst 0, 1) := by decide +kernel
theorem dX5_digest_44 : decode cX5_digest 44 = .ok (.istore_n 3, 1) := by decide +kernel
theorem dX5_digest_45 : decode cX5_digest 45 = .ok (.iload_n 3, 1) := by decide +kernel
theorem dX5_digest_46 : decode cX5_digest 46 = .ok (.aload_n 0, 1) := by decide +kernel
theorem dX5_digest_47 : decode cX5_digest 47 = .ok (.getfield 40, 3) := by decide +kernel
theorem dX5_digest_50 : decode cX5_digest 50 = .ok (.getfield 205, 3) := by decide +kernel
theorem dX5_digest_53 : decode cX5_digest 53 = .ok (.if_icmp .ge 28, 3) := by decide +kernel
theorem dX5_digest_56 : decode cX5_digest 56 = .ok (.iload_n 3, 1) := by decide +kernel
theorem dX5_digest_57 : decode cX5_digest 57 = .ok (.bipush 6, 2) := by decide +kernel
theorem dX5_digest_59 : decode cX5_digest 59 = .ok (.if_icmp .ge 22, 3) := by decide +kernel
theorem dX5_digest_62 : decode cX5_digest 62 = .ok (.lload_n 1, 1) := by decide +kernel
theorem dX5_digest_63 : decode cX5_digest 63 = .ok (.ldc2_w 269, 3) := by decide +kernel
theorem dX5_digest_66 : decode cX5_digest 66 = .ok (.lmul, 1) := by decide +kernel
theorem dX5_digest_67 : decode cX5_digest 67 = .ok (.aload_n 0, 1) := by decide +kernel
theorem dX5_digest_68 : decode cX5_digest 68 = .ok (.iload_n 3, 1) := by decide +kernel
theorem dX5_digest_69 : decode cX5_digest 69 = .ok (.invokevirtual 280, 3) := by decide +kernel
theorem dX5_digest_72 : decode cX5_digest 72 = .ok (.i2l, 1) := by decide +kernel
theorem dX5_digest_73 : decode cX5_digest 73 = .ok (.ladd, 1) := by decide +kernel
theorem dX5_digest_74 : decode cX5_digest 74 = .ok (.lstore_n 1, 1) := by decide +kernel
theorem dX5_digest_75 : decode cX5_digest 75 = .ok (.iinc 3 1, 3) := by decide +kernel
theorem dX5_digest_78 : decode cX5_digest 78 = .ok (.goto (-33), 3) := by decide +kernel
theorem dX5_digest_81 : decode cX5_digest 81 = .ok (.lload_n 1, 1) := by decide +kernel
theorem dX5_digest_82 : decode cX5_digest 82 = .ok (.ldc2_w 269, 3) := by decide +kernel
theorem dX5_digest_85 : decode cX5_digest 85 = .ok (.lmul, 1) := by decide +kernel
theorem dX5_digest_86 : decode cX5_digest 86 = .ok (.aload_n 0, 1) := by decide +kernel
theorem dX5_digest_87 : decode cX5_digest 87 = .ok (.invokevirtual 283, 3) := by decide +kernel
theorem dX5_digest_90 : decode cX5_digest 90 = .ok (.i2l, 1) := by decide +kernel
theorem dX5_digest_91 : decode cX5_digest 91 = .ok (.ladd, 1) := by decide +kernel
theorem dX5_digest_92 : decode cX5_digest 92 = .ok (.lstore_n 1, 1) := by decide +kernel
theorem dX5_digest_93 : decode cX5_digest 93 = .ok (.lload_n 1, 1) := by decide +kernel
theorem dX5_digest_94 : decode cX5_digest 94 = .ok (.ldc2_w 269, 3) := by decide +kernel
theorem dX5_digest_97 : decode cX5_digest 97 = .ok (.lmul, 1) := by decide +kernel
theorem dX5_digest_98 : decode cX5_digest 98 = .ok (.aload_n 0, 1) := by decide +kernel
theorem dX5_digest_99 : decode cX5_digest 99 = .ok (.iconst 5, 1) := by decide +kernel
theorem dX5_digest_100 : decode cX5_digest 100 = .ok (.invokevirtual 286, 3) := by decide +kernel
theorem dX5_digest_103 : decode cX5_digest 103 = .ok (.i2l, 1) := by decide +kernel
theorem dX5_digest_104 : decode cX5_digest 104 = .ok (.ladd, 1) := by decide +kernel
theorem dX5_digest_105 : decode cX5_digest 105 = .ok (.lstore_n 1, 1) := by decide +kernel
theorem dX5_digest_106 : decode cX5_digest 106 = .ok (.iconst 0, 1) := by decide +kernel
theorem dX5_digest_107 : decode cX5_digest 107 = .ok (.istore_n 3, 1) := by decide +kernel
theorem dX5_digest_108 : decode cX5_digest 108 = .ok (.iload_n 3, 1) := by decide +kernel
theorem dX5_digest_109 : decode cX5_digest 109 = .ok (.bipush 9, 2) := by decide +kernel
theorem dX5_digest_111 : decode cX5_digest 111 = .ok (.if_icmp .gt 48, 3) := by decide +kernel
theorem dX5_digest_114 : decode cX5_digest 114 = .ok (.lload_n 1, 1) := by decide +kernel
theorem dX5_digest_115 : decode cX5_digest 115 = .ok (.ldc2_w 269, 3) := by decide +kernel
theorem dX5_digest_118 : decode cX5_digest 118 = .ok (.lmul, 1) := by decide +kernel
theorem dX5_digest_119 : decode cX5_digest 119 = .ok (.aload_n 0, 1) := by decide +kernel
theorem dX5_digest_120 : decode cX5_digest 120 = .ok (.iload_n 3, 1) := by decide +kernel
theorem dX5_digest_121 : decode cX5_digest 121 = .ok (.invokevirtual 289, 3) := by decide +kernel
theorem dX5_digest_124 : decode cX5_digest 124 = .ok (.i2l, 1) := by decide +kernel
theorem dX5_digest_125 : decode cX5_digest 125 = .ok (.ladd, 1) := by decide +kernel
theorem dX5_digest_126 : decode cX5_digest 126 = .ok (.lstore_n 1, 1) := by decide +kernel
theorem dX5_digest_127 : decode cX5_digest 127 = .ok (.lload_n 1, 1) := by decide +kernel
theorem dX5_digest_128 : decode cX5_digest 128 = .ok (.ldc2_w 269, 3) := by decide +kernel
theorem dX5_digest_131 : decode cX5_digest 131 = .ok (.lmul, 1) := by decide +kernel
theorem dX5_digest_132 : decode cX5_digest 132 = .ok (.aload_n 0, 1) := by decide +kernel
theorem dX5_digest_133 : decode cX5_digest 133 = .ok (.iload_n 3, 1) := by decide +kernel
theorem dX5_digest_134 : decode cX5_digest 134 = .ok (.invokevirtual 292, 3) := by decide +kernel
theorem dX5_digest_137 : decode cX5_digest 137 = .ok (.i2l, 1) := by decide +kernel
theorem dX5_digest_138 : decode cX5_digest 138 = .ok (.ladd, 1) := by decide +kernel
theorem dX5_digest_139 : decode cX5_digest 139 = .ok (.lstore_n 1, 1) := by decide +kernel
theorem dX5_digest_140 : decode cX5_digest 140 = .ok (.lload_n 1, 1) := by decide +kernel
theorem dX5_digest_141 : decode cX5_digest 141 = .ok (.ldc2_w 269, 3) := by decide +kernel
theorem dX5_digest_144 : decode cX5_digest 144 = .ok (.lmul, 1) := by decide +kernel
theorem dX5_digest_145 : decode cX5_digest 145 = .ok (.aload_n 0, 1) := by decide +kernel
theorem dX5_digest_146 : decode cX5_digest 146 = .ok (.iload_n 3, 1) := by decide +kernel
theorem dX5_digest_147 : decode cX5_digest 147 = .ok (.invokevirtual 295, 3) := by decide +kernel
theorem dX5_digest_150 : decode cX5_digest 150 = .ok (.i2l, 1) := by decide +kernel
theorem dX5_digest_151 : decode cX5_digest 151 = .ok (.ladd, 1) := by decide +kernel
theorem dX5_digest_152 : decode cX5_digest 152 = .ok (.lstore_n 1, 1) := by decide +kernel
theorem dX5_digest_153 : decode cX5_digest 153 = .ok (.iinc 3 1, 3) := by decide +kernel
theorem dX5_digest_156 : decode cX5_digest 156 = .ok (.goto (-48), 3) := by decide +kernel
theorem dX5_digest_159 : decode cX5_digest 159 = .ok (.lload_n 1, 1) := by decide +kernel
theorem dX5_digest_160 : decode cX5_digest 160 = .ok (.lreturn, 1) := by decide +kernel
set_option maxRecDepth 20000 in
theorem ggX5_digestOfKnown_X5_ofKnown : GoodIn wsX5_digestOfKnown wsX5_ofKnown := goodIn_ca (goodIn_ca (goodIn_r _ [7, 8, 9, 10, 11, 1, 12, 13, 14, 15, 16, 17, 18, 6, 19, 20, 21, 22, 23, 24, 25, 26, 27, 28, 29, 30, 31, 32, 33, 34, 35, 36, 37, 38, 39, 40, 41, 42, 43, 44, 45, 46, 47, 48, 49, 50, 51, 52, 53, 54, 55, 56, 57, 58, 59, 60, 61, 62, 63, 64] (by decide +kernel) (by decide +kernel)) (goodIn_sub (fun _ h => List.mem_cons_of_mem _ (List.mem_append_left _ (List.mem_append_right _ h))) (by decide +kernel))) (goodIn_sub (fun _ h => List.mem_cons_of_mem _ (List.mem_append_right _ h)) (by decide +kernel))
set_option maxRecDepth 20000 in
theorem gX5_digestOfKnown_X5_ofKnown : GoodIn wsX5_digestOfKnown (wsV RX5 298 RX5 yX5_ofKnown wsX5_ofKnown) := goodIn_app (goodIn_of _ (by decide +kernel)) ggX5_digestOfKnown_X5_ofKnown
theorem dX5_digestOfKnown_0 : decode cX5_digestOfKnown 0 = .ok (.lload_n 1, 1) := by decide +kernel
theorem dX5_digestOfKnown_1 : decode cX5_digestOfKnown 1 = .ok (.lstore_n 3, 1) := by decide +kernel
theorem dX5_digestOfKnown_2 : decode cX5_digestOfKnown 2 = .ok (.iconst 0, 1) := by decide +kernel
theorem dX5_digestOfKnown_3 : decode cX5_digestOfKnown 3 = .ok (.istore 5, 2) := by decide +kernel
theorem dX5_digestOfKnown_5 : decode cX5_digestOfKnown 5 = .ok (.iload 5, 2) := by decide +kernel
theorem dX5_digestOfKnown_7 : decode cX5_digestOfKnown 7 = .ok (.aload_n 0, 1) := by decide +kernel
theorem dX5_digestOfKnown_8 : decode cX5_digestOfKnown 8 = .ok (.getfield 33, 3) := by decide +kernel
theorem dX5_digestOfKnown_11 : decode cX5_digestOfKnown 11 = .ok (.getfield 151, 3) := by decide +kernel
theorem dX5_digestOfKnown_14 : decode cX5_digestOfKnown 14 = .ok (.if_icmp .ge 48, 3) := by decide +kernel
theorem dX5_digestOfKnown_17 : decode cX5_digestOfKnown 17 = .ok (.iload 5, 2) := by decide +kernel
theorem dX5_digestOfKnown_19 : decode cX5_digestOfKnown 19 = .ok (.bipush 40, 2) := by decide +kernel
theorem dX5_digestOfKnown_21 : decode cX5_digestOfKnown 21 = .ok (.if_icmp .ge 41, 3) := by decide +kernel
theorem dX5_digestOfKnown_24 : decode cX5_digestOfKnown 24 = .ok (.iconst 0, 1) := by decide +kernel
theorem dX5_digestOfKnown_25 : decode cX5_digestOfKnown 25 = .ok (.istore 6, 2) := by decide +kernel
theorem dX5_digestOfKnown_27 : decode cX5_digestOfKnown 27 = .ok (.iload 6, 2) := by decide +kernel
theorem dX5_digestOfKnown_29 : decode cX5_digestOfKnown 29 = .ok (.bipush 6, 2) := by decide +kernel
theorem dX5_digestOfKnown_31 : decode cX5_digestOfKnown 31 = .ok (.if_icmp .gt 25, 3) := by decide +kernel
theorem dX5_digestOfKnown_34 : decode cX5_digestOfKnown 34 = .ok (.lload_n 3, 1) := by decide +kernel
theorem dX5_digestOfKnown_35 : decode cX5_digestOfKnown 35 = .ok (.ldc2_w 269, 3) := by decide +kernel
theorem dX5_digestOfKnown_38 : decode cX5_digestOfKnown 38 = .ok (.lmul, 1) := by decide +kernel
theorem dX5_digestOfKnown_39 : decode cX5_digestOfKnown 39 = .ok (.aload_n 0, 1) := by decide +kernel
theorem dX5_digestOfKnown_40 : decode cX5_digestOfKnown 40 = .ok (.iload 5, 2) := by decide +kernel
theorem dX5_digestOfKnown_42 : decode cX5_digestOfKnown 42 = .ok (.iload 6, 2) := by decide +kernel
theorem dX5_digestOfKnown_44 : decode cX5_digestOfKnown 44 = .ok (.invokevirtual 298, 3) := by decide +kernel
theorem dX5_digestOfKnown_47 : decode cX5_digestOfKnown 47 = .ok (.i2l, 1) := by decide +kernel
theorem dX5_digestOfKnown_48 : decode cX5_digestOfKnown 48 = .ok (.ladd, 1) := by decide +kernel
theorem dX5_digestOfKnown_49 : decode cX5_digestOfKnown 49 = .ok (.lstore_n 3, 1) := by decide +kernel
theorem dX5_digestOfKnown_50 : decode cX5_digestOfKnown 50 = .ok (.iinc 6 1, 3) := by decide +kernel
theorem dX5_digestOfKnown_53 : decode cX5_digestOfKnown 53 = .ok (.goto (-26), 3) := by decide +kernel
theorem dX5_digestOfKnown_56 : decode cX5_digestOfKnown 56 = .ok (.iinc 5 1, 3) := by decide +kernel
theorem dX5_digestOfKnown_59 : decode cX5_digestOfKnown 59 = .ok (.goto (-54), 3) := by decide +kernel
theorem dX5_digestOfKnown_62 : decode cX5_digestOfKnown 62 = .ok (.lload_n 3, 1) := by decide +kernel
theorem dX5_digestOfKnown_63 : decode cX5_digestOfKnown 63 = .ok (.lreturn, 1) := by decide +kernel
set_option maxRecDepth 20000 in
theorem ggX5_digestOfEdges_X5_ofEdge : GoodIn wsX5_digestOfEdges wsX5_ofEdge := goodIn_ca (goodIn_ca (goodIn_r _ [6, 7, 8, 9, 10, 11, 5, 12, 13, 14, 15, 16, 17, 18, 19, 20, 21, 22, 23, 24, 25, 26, 27, 28, 29, 30, 31, 32, 33, 34, 35, 36, 37, 38, 39, 40, 41, 42, 43, 44, 45, 46, 47, 48, 49, 50, 51] (by decide +kernel) (by decide +kernel)) (goodIn_sub (fun _ h => List.mem_cons_of_mem _ (List.mem_append_left _ (List.mem_append_right _ h))) (by decide +kernel))) (goodIn_sub (fun _ h => List.mem_cons_of_mem _ (List.mem_append_right _ h)) (by decide +kernel))
set_option maxRecDepth 20000 in
theorem gX5_digestOfEdges_X5_ofEdge : GoodIn wsX5_digestOfEdges (wsV RX5 301 RX5 yX5_ofEdge wsX5_ofEdge) := goodIn_app (goodIn_of _ (by decide +kernel)) ggX5_digestOfEdges_X5_ofEdge
theorem dX5_digestOfEdges_0 : decode cX5_digestOfEdges 0 = .ok (.lload_n 1, 1) := by decide +kernel
theorem dX5_digestOfEdges_1 : decode cX5_digestOfEdges 1 = .ok (.lstore_n 3, 1) := by decide +kernel
theorem dX5_digestOfEdges_2 : decode cX5_digestOfEdges 2 = .ok (.iconst 0, 1) := by decide +kernel
theorem dX5_digestOfEdges_3 : decode cX5_digestOfEdges 3 = .ok (.istore 5, 2) := by decide +kernel
theorem dX5_digestOfEdges_5 : decode cX5_digestOfEdges 5 = .ok (.iload 5, 2) := by decide +kernel
theorem dX5_digestOfEdges_7 : decode cX5_digestOfEdges 7 = .ok (.bipush 24, 2) := by decide +kernel
theorem dX5_digestOfEdges_9 : decode cX5_digestOfEdges 9 = .ok (.if_icmp .ge 40, 3) := by decide +kernel
theorem dX5_digestOfEdges_12 : decode cX5_digestOfEdges 12 = .ok (.iconst 0, 1) := by decide +kernel
theorem dX5_digestOfEdges_13 : decode cX5_digestOfEdges 13 = .ok (.istore 6, 2) := by decide +kernel
theorem dX5_digestOfEdges_15 : decode cX5_digestOfEdges 15 = .ok (.iload 6, 2) := by decide +kernel
theorem dX5_digestOfEdges_17 : decode cX5_digestOfEdges 17 = .ok (.iconst 2, 1) := by decide +kernel
theorem dX5_digestOfEdges_18 : decode cX5_digestOfEdges 18 = .ok (.if_icmp .gt 25, 3) := by decide +kernel
theorem dX5_digestOfEdges_21 : decode cX5_digestOfEdges 21 = .ok (.lload_n 3, 1) := by decide +kernel
theorem dX5_digestOfEdges_22 : decode cX5_digestOfEdges 22 = .ok (.ldc2_w 269, 3) := by decide +kernel
theorem dX5_digestOfEdges_25 : decode cX5_digestOfEdges 25 = .ok (.lmul, 1) := by decide +kernel
theorem dX5_digestOfEdges_26 : decode cX5_digestOfEdges 26 = .ok (.aload_n 0, 1) := by decide +kernel
theorem dX5_digestOfEdges_27 : decode cX5_digestOfEdges 27 = .ok (.iload 5, 2) := by decide +kernel
theorem dX5_digestOfEdges_29 : decode cX5_digestOfEdges 29 = .ok (.iload 6, 2) := by decide +kernel
theorem dX5_digestOfEdges_31 : decode cX5_digestOfEdges 31 = .ok (.invokevirtual 301, 3) := by decide +kernel
theorem dX5_digestOfEdges_34 : decode cX5_digestOfEdges 34 = .ok (.i2l, 1) := by decide +kernel
theorem dX5_digestOfEdges_35 : decode cX5_digestOfEdges 35 = .ok (.ladd, 1) := by decide +kernel
theorem dX5_digestOfEdges_36 : decode cX5_digestOfEdges 36 = .ok (.lstore_n 3, 1) := by decide +kernel
theorem dX5_digestOfEdges_37 : decode cX5_digestOfEdges 37 = .ok (.iinc 6 1, 3) := by decide +kernel
theorem dX5_digestOfEdges_40 : decode cX5_digestOfEdges 40 = .ok (.goto (-25), 3) := by decide +kernel
theorem dX5_digestOfEdges_43 : decode cX5_digestOfEdges 43 = .ok (.iinc 5 1, 3) := by decide +kernel
theorem dX5_digestOfEdges_46 : decode cX5_digestOfEdges 46 = .ok (.goto (-41), 3) := by decide +kernel
theorem dX5_digestOfEdges_49 : decode cX5_digestOfEdges 49 = .ok (.lload_n 3, 1) := by decide +kernel
theorem dX5_digestOfEdges_50 : decode cX5_digestOfEdges 50 = .ok (.lreturn, 1) := by decide +kernel
set_option maxRecDepth 20000 in
theorem ggX5_resultOf_X2_follow : GoodIn wsX5_resultOf wsX2_follow := goodIn_r _ [7, 8, 9, 10, 11, 12, 13, 14, 15, 16, 17, 18, 19, 20, 21, 22, 23, 6, 24, 25, 26, 27, 28, 29, 30, 31, 32, 33, 34, 35, 36, 37, 38, 39, 40, 41, 42, 52, 53, 54, 55, 56, 48, 49, 50, 51] (by decide +kernel) (by decide +kernel)
set_option maxRecDepth 20000 in
theorem gX5_resultOf_X2_follow : GoodIn wsX5_resultOf (wsV RX5 81 RX2 yX2_follow wsX2_follow) := goodIn_app (goodIn_of _ (by decide +kernel)) ggX5_resultOf_X2_follow
theorem dX5_resultOf_0 : decode cX5_resultOf 0 = .ok (.aload_n 0, 1) := by decide +kernel
theorem dX5_resultOf_1 : decode cX5_resultOf 1 = .ok (.getfield 10, 3) := by decide +kernel
theorem dX5_resultOf_4 : decode cX5_resultOf 4 = .ok (.iload_n 1, 1) := by decide +kernel
theorem dX5_resultOf_5 : decode cX5_resultOf 5 = .ok (.aload_n 0, 1) := by decide +kernel
theorem dX5_resultOf_6 : decode cX5_resultOf 6 = .ok (.getfield 19, 3) := by decide +kernel
theorem dX5_resultOf_9 : decode cX5_resultOf 9 = .ok (.invokevirtual 81, 3) := by decide +kernel
theorem dX5_resultOf_12 : decode cX5_resultOf 12 = .ok (.aload_n 0, 1) := by decide +kernel
theorem dX5_resultOf_13 : decode cX5_resultOf 13 = .ok (.getfield 19, 3) := by decide +kernel
theorem dX5_resultOf_16 : decode cX5_resultOf 16 = .ok (.getfield 304, 3) := by decide +kernel
theorem dX5_resultOf_19 : decode cX5_resultOf 19 = .ok (.ireturn, 1) := by decide +kernel
set_option maxRecDepth 20000 in
theorem ggX5_tasteOf_X2_follow : GoodIn wsX5_tasteOf wsX2_follow := goodIn_r _ [8, 9, 10, 11, 12, 13, 14, 15, 16, 17, 18, 19, 20, 21, 22, 23, 24, 7, 25, 26, 27, 28, 29, 30, 31, 32, 33, 34, 35, 36, 37, 38, 39, 40, 41, 42, 43, 87, 88, 89, 90, 91, 92, 93, 94, 95] (by decide +kernel) (by decide +kernel)
set_option maxRecDepth 20000 in
theorem gX5_tasteOf_X2_follow : GoodIn wsX5_tasteOf (wsV RX5 81 RX2 yX2_follow wsX2_follow) := goodIn_app (goodIn_of _ (by decide +kernel)) ggX5_tasteOf_X2_follow
set_option maxRecDepth 20000 in
theorem ggX5_tasteOf_X0_keptIfTasted : GoodIn wsX5_tasteOf wsX0_keptIfTasted := goodIn_r _ [48, 49, 50, 51, 52, 53, 54, 47, 55, 56, 57, 58, 59, 60, 61, 62, 63, 64, 65, 66, 36, 20, 37, 67, 68, 69, 70, 71, 72, 73, 74, 75, 76, 96, 97, 98, 99, 100, 101, 92, 93, 94, 95] (by decide +kernel) (by decide +kernel)
set_option maxRecDepth 20000 in
theorem gX5_tasteOf_X0_keptIfTasted : GoodIn wsX5_tasteOf (wsV RX5 234 RX0 yX0_keptIfTasted wsX0_keptIfTasted) := goodIn_app (goodIn_of _ (by decide +kernel)) ggX5_tasteOf_X0_keptIfTasted
set_option maxRecDepth 20000 in
theorem ggX5_tasteOf_X0_take : GoodIn wsX5_tasteOf wsX0_take := goodIn_r _ [80, 50, 49, 96, 97, 98, 99, 100, 101] (by decide +kernel) (by decide +kernel)
set_option maxRecDepth 20000 in
theorem gX5_tasteOf_X0_take : GoodIn wsX5_tasteOf (wsV RX5 307 RX0 yX0_take wsX0_take) := goodIn_app (goodIn_of _ (by decide +kernel)) ggX5_tasteOf_X0_take
set_option maxRecDepth 20000 in
theorem ggX5_tasteOf_X0_numberOf : GoodIn wsX5_tasteOf wsX0_numberOf := goodIn_r _ [55, 49, 51, 96, 97, 98, 99, 100, 101] (by decide +kernel) (by decide +kernel)
set_option maxRecDepth 20000 in
theorem gX5_tasteOf_X0_numberOf : GoodIn wsX5_tasteOf (wsV RX5 311 RX0 yX0_numberOf wsX0_numberOf) := goodIn_app (goodIn_of _ (by decide +kernel)) ggX5_tasteOf_X0_numberOf
theorem dX5_tasteOf_0 : decode cX5_tasteOf 0 = .ok (.aload_n 0, 1) := by decide +kernel
theorem dX5_tasteOf_1 : decode cX5_tasteOf 1 = .ok (.getfield 10, 3) := by decide +kernel
theorem dX5_tasteOf_4 : decode cX5_tasteOf 4 = .ok (.iload_n 1, 1) := by decide +kernel
theorem dX5_tasteOf_5 : decode cX5_tasteOf 5 = .ok (.aload_n 0, 1) := by decide +kernel
theorem dX5_tasteOf_6 : decode cX5_tasteOf 6 = .ok (.getfield 19, 3) := by decide +kernel
theorem dX5_tasteOf_9 : decode cX5_tasteOf 9 = .ok (.invokevirtual 81, 3) := by decide +kernel
theorem dX5_tasteOf_12 : decode cX5_tasteOf 12 = .ok (.aload_n 0, 1) := by decide +kernel
theorem dX5_tasteOf_13 : decode cX5_tasteOf 13 = .ok (.getfield 33, 3) := by decide +kernel
theorem dX5_tasteOf_16 : decode cX5_tasteOf 16 = .ok (.aload_n 0, 1) := by decide +kernel
theorem dX5_tasteOf_17 : decode cX5_tasteOf 17 = .ok (.getfield 33, 3) := by decide +kernel
theorem dX5_tasteOf_20 : decode cX5_tasteOf 20 = .ok (.iload_n 1, 1) := by decide +kernel
theorem dX5_tasteOf_21 : decode cX5_tasteOf 21 = .ok (.aload_n 0, 1) := by decide +kernel
theorem dX5_tasteOf_22 : decode cX5_tasteOf 22 = .ok (.getfield 19, 3) := by decide +kernel
theorem dX5_tasteOf_25 : decode cX5_tasteOf 25 = .ok (.invokevirtual 234, 3) := by decide +kernel
theorem dX5_tasteOf_28 : decode cX5_tasteOf 28 = .ok (.invokevirtual 307, 3) := by decide +kernel
theorem dX5_tasteOf_31 : decode cX5_tasteOf 31 = .ok (.aload_n 0, 1) := by decide +kernel
theorem dX5_tasteOf_32 : decode cX5_tasteOf 32 = .ok (.getfield 33, 3) := by decide +kernel
theorem dX5_tasteOf_35 : decode cX5_tasteOf 35 = .ok (.iload_n 1, 1) := by decide +kernel
theorem dX5_tasteOf_36 : decode cX5_tasteOf 36 = .ok (.invokevirtual 311, 3) := by decide +kernel
theorem dX5_tasteOf_39 : decode cX5_tasteOf 39 = .ok (.ireturn, 1) := by decide +kernel
set_option maxRecDepth 20000 in
theorem ggX5_keptAfterChange_X2_follow : GoodIn wsX5_keptAfterChange wsX2_follow := goodIn_r _ [8, 9, 10, 11, 12, 13, 14, 15, 16, 17, 18, 19, 20, 21, 22, 23, 24, 7, 25, 26, 27, 28, 29, 30, 31, 32, 33, 34, 35, 36, 37, 38, 39, 40, 41, 42, 43, 94, 95, 96, 97, 98, 99, 100, 101, 102] (by decide +kernel) (by decide +kernel)
set_option maxRecDepth 20000 in
theorem gX5_keptAfterChange_X2_follow : GoodIn wsX5_keptAfterChange (wsV RX5 81 RX2 yX2_follow wsX2_follow) := goodIn_app (goodIn_of _ (by decide +kernel)) ggX5_keptAfterChange_X2_follow
set_option maxRecDepth 20000 in
theorem ggX5_keptAfterChange_X0_note : GoodIn wsX5_keptAfterChange wsX0_note := goodIn_r _ [48, 49, 50, 88, 89, 90, 91, 92, 93, 99, 100, 101, 102] (by decide +kernel) (by decide +kernel)
set_option maxRecDepth 20000 in
theorem gX5_keptAfterChange_X0_note : GoodIn wsX5_keptAfterChange (wsV RX5 314 RX0 yX0_note wsX0_note) := goodIn_app (goodIn_of _ (by decide +kernel)) ggX5_keptAfterChange_X0_note
set_option maxRecDepth 20000 in
theorem ggX5_keptAfterChange_X0_settle : GoodIn wsX5_keptAfterChange wsX0_settle := goodIn_r _ [54, 55, 56, 57, 58, 59, 47, 60, 61, 20, 62, 63, 64, 65, 66, 50, 67, 36, 37, 68, 69, 70, 71, 72, 73, 74, 75, 88, 89, 90, 91, 92, 93] (by decide +kernel) (by decide +kernel)
set_option maxRecDepth 20000 in
theorem gX5_keptAfterChange_X0_settle : GoodIn wsX5_keptAfterChange (wsV RX5 317 RX0 yX0_settle wsX0_settle) := goodIn_app (goodIn_of _ (by decide +kernel)) ggX5_keptAfterChange_X0_settle
set_option maxRecDepth 20000 in
theorem ggX5_keptAfterChange_J13_bitCount_95d88 : GoodIn wsX5_keptAfterChange wsJ13_bitCount_95d88 := goodIn_r _ [79, 80, 81, 82] (by decide +kernel) (by decide +kernel)
set_option maxRecDepth 20000 in
theorem gX5_keptAfterChange_J13_bitCount_95d88 : GoodIn wsX5_keptAfterChange (va_wsS RX5 187 yJ13_bitCount_95d88 wsJ13_bitCount_95d88) := goodIn_app (goodIn_of _ (by decide +kernel)) ggX5_keptAfterChange_J13_bitCount_95d88
theorem dX5_keptAfterChange_0 : decode cX5_keptAfterChange 0 = .ok (.iconst 0, 1) := by decide +kernel
theorem dX5_keptAfterChange_1 : decode cX5_keptAfterChange 1 = .ok (.istore_n 1, 1) := by decide +kernel
theorem dX5_keptAfterChange_2 : decode cX5_keptAfterChange 2 = .ok (.iload_n 1, 1) := by decide +kernel
theorem dX5_keptAfterChange_3 : decode cX5_keptAfterChange 3 = .ok (.aload_n 0, 1) := by decide +kernel
theorem dX5_keptAfterChange_4 : decode cX5_keptAfterChange 4 = .ok (.getfield 33, 3) := by decide +kernel
theorem dX5_keptAfterChange_7 : decode cX5_keptAfterChange 7 = .ok (.getfield 151, 3) := by decide +kernel
theorem dX5_keptAfterChange_10 : decode cX5_keptAfterChange 10 = .ok (.if_icmp .ge 47, 3) := by decide +kernel
theorem dX5_keptAfterChange_13 : decode cX5_keptAfterChange 13 = .ok (.iload_n 1, 1) := by decide +kernel
theorem dX5_keptAfterChange_14 : decode cX5_keptAfterChange 14 = .ok (.bipush 40, 2) := by decide +kernel
theorem dX5_keptAfterChange_16 : decode cX5_keptAfterChange 16 = .ok (.if_icmp .ge 41, 3) := by decide +kernel
theorem dX5_keptAfterChange_19 : decode cX5_keptAfterChange 19 = .ok (.aload_n 0, 1) := by decide +kernel
theorem dX5_keptAfterChange_20 : decode cX5_keptAfterChange 20 = .ok (.getfield 10, 3) := by decide +kernel
theorem dX5_keptAfterChange_23 : decode cX5_keptAfterChange 23 = .ok (.aload_n 0, 1) := by decide +kernel
theorem dX5_keptAfterChange_24 : decode cX5_keptAfterChange 24 = .ok (.getfield 33, 3) := by decide +kernel
theorem dX5_keptAfterChange_27 : decode cX5_keptAfterChange 27 = .ok (.getfield 145, 3) := by decide +kernel
theorem dX5_keptAfterChange_30 : decode cX5_keptAfterChange 30 = .ok (.iload_n 1, 1) := by decide +kernel
theorem dX5_keptAfterChange_31 : decode cX5_keptAfterChange 31 = .ok (.iaload, 1) := by decide +kernel
theorem dX5_keptAfterChange_32 : decode cX5_keptAfterChange 32 = .ok (.aload_n 0, 1) := by decide +kernel
theorem dX5_keptAfterChange_33 : decode cX5_keptAfterChange 33 = .ok (.getfield 19, 3) := by decide +kernel
theorem dX5_keptAfterChange_36 : decode cX5_keptAfterChange 36 = .ok (.invokevirtual 81, 3) := by decide +kernel
theorem dX5_keptAfterChange_39 : decode cX5_keptAfterChange 39 = .ok (.aload_n 0, 1) := by decide +kernel
theorem dX5_keptAfterChange_40 : decode cX5_keptAfterChange 40 = .ok (.getfield 33, 3) := by decide +kernel
theorem dX5_keptAfterChange_43 : decode cX5_keptAfterChange 43 = .ok (.iload_n 1, 1) := by decide +kernel
theorem dX5_keptAfterChange_44 : decode cX5_keptAfterChange 44 = .ok (.aload_n 0, 1) := by decide +kernel
theorem dX5_keptAfterChange_45 : decode cX5_keptAfterChange 45 = .ok (.getfield 19, 3) := by decide +kernel
theorem dX5_keptAfterChange_48 : decode cX5_keptAfterChange 48 = .ok (.invokevirtual 314, 3) := by decide +kernel
theorem dX5_keptAfterChange_51 : decode cX5_keptAfterChange 51 = .ok (.iinc 1 1, 3) := by decide +kernel
theorem dX5_keptAfterChange_54 : decode cX5_keptAfterChange 54 = .ok (.goto (-52), 3) := by decide +kernel
theorem dX5_keptAfterChange_57 : decode cX5_keptAfterChange 57 = .ok (.aload_n 0, 1) := by decide +kernel
theorem dX5_keptAfterChange_58 : decode cX5_keptAfterChange 58 = .ok (.getfield 33, 3) := by decide +kernel
theorem dX5_keptAfterChange_61 : decode cX5_keptAfterChange 61 = .ok (.invokevirtual 317, 3) := by decide +kernel
theorem dX5_keptAfterChange_64 : decode cX5_keptAfterChange 64 = .ok (.aload_n 0, 1) := by decide +kernel
theorem dX5_keptAfterChange_65 : decode cX5_keptAfterChange 65 = .ok (.getfield 33, 3) := by decide +kernel
theorem dX5_keptAfterChange_68 : decode cX5_keptAfterChange 68 = .ok (.getfield 171, 3) := by decide +kernel
theorem dX5_keptAfterChange_71 : decode cX5_keptAfterChange 71 = .ok (.invokestatic 187, 3) := by decide +kernel
theorem dX5_keptAfterChange_74 : decode cX5_keptAfterChange 74 = .ok (.ireturn, 1) := by decide +kernel
set_option maxRecDepth 20000 in
theorem ggX5_shrunk_X5_shrunkAt : GoodIn wsX5_shrunk wsX5_shrunkAt := goodIn_r _ [5, 6, 7, 4, 8, 9, 10, 11, 12, 13, 14, 15, 16, 17, 18, 19, 20, 21, 22, 23, 24, 25, 26, 27, 28, 29, 30, 31, 32, 33, 34, 35, 36, 37, 38, 39, 40, 41, 42, 43, 44, 45, 46, 47, 48, 49, 50, 51, 52, 53, 54, 55, 56, 57, 58, 59, 60, 61, 62, 63, 64, 65, 66, 67, 68, 69, 70, 71] (by decide +kernel) (by decide +kernel)
set_option maxRecDepth 20000 in
theorem gX5_shrunk_X5_shrunkAt : GoodIn wsX5_shrunk (wsV RX5 320 RX5 yX5_shrunkAt wsX5_shrunkAt) := goodIn_app (goodIn_of _ (by decide +kernel)) ggX5_shrunk_X5_shrunkAt
theorem dX5_shrunk_0 : decode cX5_shrunk 0 = .ok (.iload_n 1, 1) := by decide +kernel
theorem dX5_shrunk_1 : decode cX5_shrunk 1 = .ok (.istore_n 3, 1) := by decide +kernel
theorem dX5_shrunk_2 : decode cX5_shrunk 2 = .ok (.iconst 0, 1) := by decide +kernel
theorem dX5_shrunk_3 : decode cX5_shrunk 3 = .ok (.istore 4, 2) := by decide +kernel
theorem dX5_shrunk_5 : decode cX5_shrunk 5 = .ok (.iload 4, 2) := by decide +kernel
theorem dX5_shrunk_7 : decode cX5_shrunk 7 = .ok (.sipush 10000, 3) := by decide +kernel
theorem dX5_shrunk_10 : decode cX5_shrunk 10 = .ok (.if_icmp .ge 44, 3) := by decide +kernel
theorem dX5_shrunk_13 : decode cX5_shrunk 13 = .ok (.iload_n 3, 1) := by decide +kernel
theorem dX5_shrunk_14 : decode cX5_shrunk 14 = .ok (.istore 5, 2) := by decide +kernel
theorem dX5_shrunk_16 : decode cX5_shrunk 16 = .ok (.iconst 0, 1) := by decide +kernel
theorem dX5_shrunk_17 : decode cX5_shrunk 17 = .ok (.istore 6, 2) := by decide +kernel
theorem dX5_shrunk_19 : decode cX5_shrunk 19 = .ok (.iload 6, 2) := by decide +kernel
theorem dX5_shrunk_21 : decode cX5_shrunk 21 = .ok (.iconst 4, 1) := by decide +kernel
theorem dX5_shrunk_22 : decode cX5_shrunk 22 = .ok (.if_icmp .ge 18, 3) := by decide +kernel
theorem dX5_shrunk_25 : decode cX5_shrunk 25 = .ok (.aload_n 0, 1) := by decide +kernel
theorem dX5_shrunk_26 : decode cX5_shrunk 26 = .ok (.iload 6, 2) := by decide +kernel
theorem dX5_shrunk_28 : decode cX5_shrunk 28 = .ok (.iload_n 3, 1) := by decide +kernel
theorem dX5_shrunk_29 : decode cX5_shrunk 29 = .ok (.iload_n 2, 1) := by decide +kernel
theorem dX5_shrunk_30 : decode cX5_shrunk 30 = .ok (.invokevirtual 320, 3) := by decide +kernel
theorem dX5_shrunk_33 : decode cX5_shrunk 33 = .ok (.istore_n 3, 1) := by decide +kernel
theorem dX5_shrunk_34 : decode cX5_shrunk 34 = .ok (.iinc 6 1, 3) := by decide +kernel
theorem dX5_shrunk_37 : decode cX5_shrunk 37 = .ok (.goto (-18), 3) := by decide +kernel
theorem dX5_shrunk_40 : decode cX5_shrunk 40 = .ok (.iload_n 3, 1) := by decide +kernel
theorem dX5_shrunk_41 : decode cX5_shrunk 41 = .ok (.iload 5, 2) := by decide +kernel
theorem dX5_shrunk_43 : decode cX5_shrunk 43 = .ok (.if_icmp .ne 5, 3) := by decide +kernel
theorem dX5_shrunk_46 : decode cX5_shrunk 46 = .ok (.iload_n 3, 1) := by decide +kernel
theorem dX5_shrunk_47 : decode cX5_shrunk 47 = .ok (.ireturn, 1) := by decide +kernel
theorem dX5_shrunk_48 : decode cX5_shrunk 48 = .ok (.iinc 4 1, 3) := by decide +kernel
theorem dX5_shrunk_51 : decode cX5_shrunk 51 = .ok (.goto (-46), 3) := by decide +kernel
theorem dX5_shrunk_54 : decode cX5_shrunk 54 = .ok (.iload_n 3, 1) := by decide +kernel
theorem dX5_shrunk_55 : decode cX5_shrunk 55 = .ok (.ireturn, 1) := by decide +kernel
set_option maxRecDepth 20000 in
theorem ggX5_shrunkAt_X5_valueOf : GoodIn wsX5_shrunkAt wsX5_valueOf := goodIn_r _ [4] (by decide +kernel) (by decide +kernel)
set_option maxRecDepth 20000 in
theorem gX5_shrunkAt_X5_valueOf : GoodIn wsX5_shrunkAt (va_wsS RX5 323 yX5_valueOf wsX5_valueOf) := goodIn_app (goodIn_of _ (by decide +kernel)) ggX5_shrunkAt_X5_valueOf
set_option maxRecDepth 20000 in
theorem ggX5_shrunkAt_X5_withValue : GoodIn wsX5_shrunkAt wsX5_withValue := goodIn_r _ [7, 1, 2, 3, 4, 8, 9, 10] (by decide +kernel) (by decide +kernel)
set_option maxRecDepth 20000 in
theorem gX5_shrunkAt_X5_withValue : GoodIn wsX5_shrunkAt (va_wsS RX5 326 yX5_withValue wsX5_withValue) := goodIn_app (goodIn_of _ (by decide +kernel)) ggX5_shrunkAt_X5_withValue
set_option maxRecDepth 20000 in
theorem ggX5_shrunkAt_X5_resultOf : GoodIn wsX5_shrunkAt wsX5_resultOf := goodIn_r _ [14, 15, 16, 17, 18, 19, 20, 21, 22, 23, 24, 25, 26, 27, 28, 29, 30, 31, 32, 3, 33, 34, 35, 36, 37, 38, 39, 40, 2, 4, 41, 42, 43, 44, 45, 46, 47, 48, 49, 50, 51, 52, 53, 54, 55, 56, 57, 58, 59, 60, 61, 62, 63, 64, 65, 66, 67] (by decide +kernel) (by decide +kernel)
set_option maxRecDepth 20000 in
theorem gX5_shrunkAt_X5_resultOf : GoodIn wsX5_shrunkAt (wsV RX5 77 RX5 yX5_resultOf wsX5_resultOf) := goodIn_app (goodIn_of _ (by decide +kernel)) ggX5_shrunkAt_X5_resultOf
theorem dX5_shrunkAt_0 : decode cX5_shrunkAt 0 = .ok (.iload_n 2, 1) := by decide +kernel
theorem dX5_shrunkAt_1 : decode cX5_shrunkAt 1 = .ok (.iload_n 1, 1) := by decide +kernel
theorem dX5_shrunkAt_2 : decode cX5_shrunkAt 2 = .ok (.invokestatic 323, 3) := by decide +kernel
theorem dX5_shrunkAt_5 : decode cX5_shrunkAt 5 = .ok (.istore 4, 2) := by decide +kernel
theorem dX5_shrunkAt_7 : decode cX5_shrunkAt 7 = .ok (.iconst 0, 1) := by decide +kernel
theorem dX5_shrunkAt_8 : decode cX5_shrunkAt 8 = .ok (.istore 5, 2) := by decide +kernel
theorem dX5_shrunkAt_10 : decode cX5_shrunkAt 10 = .ok (.iload 5, 2) := by decide +kernel
theorem dX5_shrunkAt_12 : decode cX5_shrunkAt 12 = .ok (.iload 4, 2) := by decide +kernel
theorem dX5_shrunkAt_14 : decode cX5_shrunkAt 14 = .ok (.if_icmp .ge 31, 3) := by decide +kernel
theorem dX5_shrunkAt_17 : decode cX5_shrunkAt 17 = .ok (.iload_n 2, 1) := by decide +kernel
theorem dX5_shrunkAt_18 : decode cX5_shrunkAt 18 = .ok (.iload_n 1, 1) := by decide +kernel
theorem dX5_shrunkAt_19 : decode cX5_shrunkAt 19 = .ok (.iload 5, 2) := by decide +kernel
theorem dX5_shrunkAt_21 : decode cX5_shrunkAt 21 = .ok (.invokestatic 326, 3) := by decide +kernel
theorem dX5_shrunkAt_24 : decode cX5_shrunkAt 24 = .ok (.istore 6, 2) := by decide +kernel
theorem dX5_shrunkAt_26 : decode cX5_shrunkAt 26 = .ok (.aload_n 0, 1) := by decide +kernel
theorem dX5_shrunkAt_27 : decode cX5_shrunkAt 27 = .ok (.iload 6, 2) := by decide +kernel
theorem dX5_shrunkAt_29 : decode cX5_shrunkAt 29 = .ok (.invokevirtual 77, 3) := by decide +kernel
theorem dX5_shrunkAt_32 : decode cX5_shrunkAt 32 = .ok (.iload_n 3, 1) := by decide +kernel
theorem dX5_shrunkAt_33 : decode cX5_shrunkAt 33 = .ok (.if_icmp .ne 6, 3) := by decide +kernel
theorem dX5_shrunkAt_36 : decode cX5_shrunkAt 36 = .ok (.iload 6, 2) := by decide +kernel
theorem dX5_shrunkAt_38 : decode cX5_shrunkAt 38 = .ok (.ireturn, 1) := by decide +kernel
theorem dX5_shrunkAt_39 : decode cX5_shrunkAt 39 = .ok (.iinc 5 1, 3) := by decide +kernel
theorem dX5_shrunkAt_42 : decode cX5_shrunkAt 42 = .ok (.goto (-32), 3) := by decide +kernel
theorem dX5_shrunkAt_45 : decode cX5_shrunkAt 45 = .ok (.iload_n 2, 1) := by decide +kernel
theorem dX5_shrunkAt_46 : decode cX5_shrunkAt 46 = .ok (.ireturn, 1) := by decide +kernel
set_option maxRecDepth 20000 in
theorem ggX5_fewestFrom_X5_fewestFrom : GoodIn wsX5_fewestFrom wsX5_fewestFrom := goodIn_r _ [0, 1, 2, 3, 4, 5, 6, 7, 8] (by decide +kernel) (by decide +kernel)
set_option maxRecDepth 20000 in
theorem gX5_fewestFrom_X5_fewestFrom : GoodIn wsX5_fewestFrom (va_wsS RX5 251 yX5_fewestFrom wsX5_fewestFrom) := goodIn_app (goodIn_of _ (by decide +kernel)) ggX5_fewestFrom_X5_fewestFrom
theorem dX5_fewestFrom_0 : decode cX5_fewestFrom 0 = .ok (.lload_n 3, 1) := by decide +kernel
theorem dX5_fewestFrom_1 : decode cX5_fewestFrom 1 = .ok (.lconst 0, 1) := by decide +kernel
theorem dX5_fewestFrom_2 : decode cX5_fewestFrom 2 = .ok (.lcmp, 1) := by decide +kernel
theorem dX5_fewestFrom_3 : decode cX5_fewestFrom 3 = .ok (.ifCond .ne 11, 3) := by decide +kernel
theorem dX5_fewestFrom_6 : decode cX5_fewestFrom 6 = .ok (.iload 5, 2) := by decide +kernel
theorem dX5_fewestFrom_8 : decode cX5_fewestFrom 8 = .ok (.iload 6, 2) := by decide +kernel
theorem dX5_fewestFrom_10 : decode cX5_fewestFrom 10 = .ok (.invokestatic 329, 3) := by decide +kernel
theorem dX5_fewestFrom_13 : decode cX5_fewestFrom 13 = .ok (.ireturn, 1) := by decide +kernel
theorem dX5_fewestFrom_14 : decode cX5_fewestFrom 14 = .ok (.iload_n 2, 1) := by decide +kernel
theorem dX5_fewestFrom_15 : decode cX5_fewestFrom 15 = .ok (.iload_n 1, 1) := by decide +kernel
theorem dX5_fewestFrom_16 : decode cX5_fewestFrom 16 = .ok (.if_icmp .ge 18, 3) := by decide +kernel
theorem dX5_fewestFrom_19 : decode cX5_fewestFrom 19 = .ok (.iload_n 2, 1) := by decide +kernel
theorem dX5_fewestFrom_20 : decode cX5_fewestFrom 20 = .ok (.bipush 12, 2) := by decide +kernel
theorem dX5_fewestFrom_22 : decode cX5_fewestFrom 22 = .ok (.if_icmp .ge 12, 3) := by decide +kernel
theorem dX5_fewestFrom_25 : decode cX5_fewestFrom 25 = .ok (.iload 5, 2) := by decide +kernel
theorem dX5_fewestFrom_27 : decode cX5_fewestFrom 27 = .ok (.iconst 1, 1) := by decide +kernel
theorem dX5_fewestFrom_28 : decode cX5_fewestFrom 28 = .ok (.iadd, 1) := by decide +kernel
theorem dX5_fewestFrom_29 : decode cX5_fewestFrom 29 = .ok (.iload 6, 2) := by decide +kernel
theorem dX5_fewestFrom_31 : decode cX5_fewestFrom 31 = .ok (.if_icmp .lt 6, 3) := by decide +kernel
theorem dX5_fewestFrom_34 : decode cX5_fewestFrom 34 = .ok (.iload 6, 2) := by decide +kernel
theorem dX5_fewestFrom_36 : decode cX5_fewestFrom 36 = .ok (.ireturn, 1) := by decide +kernel
theorem dX5_fewestFrom_37 : decode cX5_fewestFrom 37 = .ok (.iload 6, 2) := by decide +kernel
theorem dX5_fewestFrom_39 : decode cX5_fewestFrom 39 = .ok (.istore 7, 2) := by decide +kernel
theorem dX5_fewestFrom_41 : decode cX5_fewestFrom 41 = .ok (.aload_n 0, 1) := by decide +kernel
theorem dX5_fewestFrom_42 : decode cX5_fewestFrom 42 = .ok (.iload_n 2, 1) := by decide +kernel
theorem dX5_fewestFrom_43 : decode cX5_fewestFrom 43 = .ok (.laload, 1) := by decide +kernel
theorem dX5_fewestFrom_44 : decode cX5_fewestFrom 44 = .ok (.lload_n 3, 1) := by decide +kernel
theorem dX5_fewestFrom_45 : decode cX5_fewestFrom 45 = .ok (.land, 1) := by decide +kernel
theorem dX5_fewestFrom_46 : decode cX5_fewestFrom 46 = .ok (.lconst 0, 1) := by decide +kernel
theorem dX5_fewestFrom_47 : decode cX5_fewestFrom 47 = .ok (.lcmp, 1) := by decide +kernel
theorem dX5_fewestFrom_48 : decode cX5_fewestFrom 48 = .ok (.ifCond .eq 28, 3) := by decide +kernel
theorem dX5_fewestFrom_51 : decode cX5_fewestFrom 51 = .ok (.aload_n 0, 1) := by decide +kernel
theorem dX5_fewestFrom_52 : decode cX5_fewestFrom 52 = .ok (.iload_n 1, 1) := by decide +kernel
theorem dX5_fewestFrom_53 : decode cX5_fewestFrom 53 = .ok (.iload_n 2, 1) := by decide +kernel
theorem dX5_fewestFrom_54 : decode cX5_fewestFrom 54 = .ok (.iconst 1, 1) := by decide +kernel
theorem dX5_fewestFrom_55 : decode cX5_fewestFrom 55 = .ok (.iadd, 1) := by decide +kernel
theorem dX5_fewestFrom_56 : decode cX5_fewestFrom 56 = .ok (.lload_n 3, 1) := by decide +kernel
theorem dX5_fewestFrom_57 : decode cX5_fewestFrom 57 = .ok (.aload_n 0, 1) := by decide +kernel
theorem dX5_fewestFrom_58 : decode cX5_fewestFrom 58 = .ok (.iload_n 2, 1) := by decide +kernel
theorem dX5_fewestFrom_59 : decode cX5_fewestFrom 59 = .ok (.laload, 1) := by decide +kernel
theorem dX5_fewestFrom_60 : decode cX5_fewestFrom 60 = .ok (.ldc2_w 238, 3) := by decide +kernel
theorem dX5_fewestFrom_63 : decode cX5_fewestFrom 63 = .ok (.lxor, 1) := by decide +kernel
theorem dX5_fewestFrom_64 : decode cX5_fewestFrom 64 = .ok (.land, 1) := by decide +kernel
theorem dX5_fewestFrom_65 : decode cX5_fewestFrom 65 = .ok (.iload 5, 2) := by decide +kernel
theorem dX5_fewestFrom_67 : decode cX5_fewestFrom 67 = .ok (.iconst 1, 1) := by decide +kernel
theorem dX5_fewestFrom_68 : decode cX5_fewestFrom 68 = .ok (.iadd, 1) := by decide +kernel
theorem dX5_fewestFrom_69 : decode cX5_fewestFrom 69 = .ok (.iload 7, 2) := by decide +kernel
theorem dX5_fewestFrom_71 : decode cX5_fewestFrom 71 = .ok (.invokestatic 251, 3) := by decide +kernel
theorem dX5_fewestFrom_74 : decode cX5_fewestFrom 74 = .ok (.istore 7, 2) := by decide +kernel
theorem dX5_fewestFrom_76 : decode cX5_fewestFrom 76 = .ok (.aload_n 0, 1) := by decide +kernel
theorem dX5_fewestFrom_77 : decode cX5_fewestFrom 77 = .ok (.iload_n 1, 1) := by decide +kernel
theorem dX5_fewestFrom_78 : decode cX5_fewestFrom 78 = .ok (.iload_n 2, 1) := by decide +kernel
theorem dX5_fewestFrom_79 : decode cX5_fewestFrom 79 = .ok (.iconst 1, 1) := by decide +kernel
theorem dX5_fewestFrom_80 : decode cX5_fewestFrom 80 = .ok (.iadd, 1) := by decide +kernel
theorem dX5_fewestFrom_81 : decode cX5_fewestFrom 81 = .ok (.lload_n 3, 1) := by decide +kernel
theorem dX5_fewestFrom_82 : decode cX5_fewestFrom 82 = .ok (.iload 5, 2) := by decide +kernel
theorem dX5_fewestFrom_84 : decode cX5_fewestFrom 84 = .ok (.iload 7, 2) := by decide +kernel
theorem dX5_fewestFrom_86 : decode cX5_fewestFrom 86 = .ok (.invokestatic 251, 3) := by decide +kernel
theorem dX5_fewestFrom_89 : decode cX5_fewestFrom 89 = .ok (.ireturn, 1) := by decide +kernel
set_option maxRecDepth 20000 in
theorem ggX5_checkNode_X5_isNode : GoodIn wsX5_checkNode wsX5_isNode := goodIn_r _ [6] (by decide +kernel) (by decide +kernel)
set_option maxRecDepth 20000 in
theorem gX5_checkNode_X5_isNode : GoodIn wsX5_checkNode (va_wsS RX5 334 yX5_isNode wsX5_isNode) := goodIn_app (goodIn_of _ (by decide +kernel)) ggX5_checkNode_X5_isNode
theorem dX5_checkNode_0 : decode cX5_checkNode 0 = .ok (.iload_n 0, 1) := by decide +kernel
theorem dX5_checkNode_1 : decode cX5_checkNode 1 = .ok (.invokestatic 334, 3) := by decide +kernel
theorem dX5_checkNode_4 : decode cX5_checkNode 4 = .ok (.ifCond .ne 14, 3) := by decide +kernel
theorem dX5_checkNode_7 : decode cX5_checkNode 7 = .ok (.new 89, 3) := by decide +kernel
theorem dX5_checkNode_10 : decode cX5_checkNode 10 = .ok (.dup, 1) := by decide +kernel
theorem dX5_checkNode_11 : decode cX5_checkNode 11 = .ok (.ldc_w 337, 3) := by decide +kernel
theorem dX5_checkNode_14 : decode cX5_checkNode 14 = .ok (.invokespecial 93, 3) := by decide +kernel
theorem dX5_checkNode_17 : decode cX5_checkNode 17 = .ok (.athrow, 1) := by decide +kernel
theorem dX5_checkNode_18 : decode cX5_checkNode 18 = .ok (.return_, 1) := by decide +kernel
set_option maxRecDepth 20000 in
theorem ggX5_checkTarget_X5_isNode : GoodIn wsX5_checkTarget wsX5_isNode := goodIn_r _ [6] (by decide +kernel) (by decide +kernel)
set_option maxRecDepth 20000 in
theorem gX5_checkTarget_X5_isNode : GoodIn wsX5_checkTarget (va_wsS RX5 334 yX5_isNode wsX5_isNode) := goodIn_app (goodIn_of _ (by decide +kernel)) ggX5_checkTarget_X5_isNode
theorem dX5_checkTarget_0 : decode cX5_checkTarget 0 = .ok (.iload_n 0, 1) := by decide +kernel
theorem dX5_checkTarget_1 : decode cX5_checkTarget 1 = .ok (.iconst (-1), 1) := by decide +kernel
theorem dX5_checkTarget_2 : decode cX5_checkTarget 2 = .ok (.if_icmp .eq 21, 3) := by decide +kernel
theorem dX5_checkTarget_5 : decode cX5_checkTarget 5 = .ok (.iload_n 0, 1) := by decide +kernel
theorem dX5_checkTarget_6 : decode cX5_checkTarget 6 = .ok (.invokestatic 334, 3) := by decide +kernel
theorem dX5_checkTarget_9 : decode cX5_checkTarget 9 = .ok (.ifCond .ne 14, 3) := by decide +kernel
theorem dX5_checkTarget_12 : decode cX5_checkTarget 12 = .ok (.new 89, 3) := by decide +kernel
theorem dX5_checkTarget_15 : decode cX5_checkTarget 15 = .ok (.dup, 1) := by decide +kernel
theorem dX5_checkTarget_16 : decode cX5_checkTarget 16 = .ok (.ldc_w 339, 3) := by decide +kernel
theorem dX5_checkTarget_19 : decode cX5_checkTarget 19 = .ok (.invokespecial 93, 3) := by decide +kernel
theorem dX5_checkTarget_22 : decode cX5_checkTarget 22 = .ok (.athrow, 1) := by decide +kernel
theorem dX5_checkTarget_23 : decode cX5_checkTarget 23 = .ok (.return_, 1) := by decide +kernel
theorem dX5_checkEdge_0 : decode cX5_checkEdge 0 = .ok (.iload_n 0, 1) := by decide +kernel
theorem dX5_checkEdge_1 : decode cX5_checkEdge 1 = .ok (.ifCond .lt 9, 3) := by decide +kernel
theorem dX5_checkEdge_4 : decode cX5_checkEdge 4 = .ok (.iload_n 0, 1) := by decide +kernel
theorem dX5_checkEdge_5 : decode cX5_checkEdge 5 = .ok (.bipush 24, 2) := by decide +kernel
theorem dX5_checkEdge_7 : decode cX5_checkEdge 7 = .ok (.if_icmp .lt 14, 3) := by decide +kernel
theorem dX5_checkEdge_10 : decode cX5_checkEdge 10 = .ok (.new 89, 3) := by decide +kernel
theorem dX5_checkEdge_13 : decode cX5_checkEdge 13 = .ok (.dup, 1) := by decide +kernel
theorem dX5_checkEdge_14 : decode cX5_checkEdge 14 = .ok (.ldc_w 341, 3) := by decide +kernel
theorem dX5_checkEdge_17 : decode cX5_checkEdge 17 = .ok (.invokespecial 93, 3) := by decide +kernel
theorem dX5_checkEdge_20 : decode cX5_checkEdge 20 = .ok (.athrow, 1) := by decide +kernel
theorem dX5_checkEdge_21 : decode cX5_checkEdge 21 = .ok (.return_, 1) := by decide +kernel
theorem dX5_checkSlot_0 : decode cX5_checkSlot 0 = .ok (.iload_n 0, 1) := by decide +kernel
theorem dX5_checkSlot_1 : decode cX5_checkSlot 1 = .ok (.ifCond .lt 8, 3) := by decide +kernel
theorem dX5_checkSlot_4 : decode cX5_checkSlot 4 = .ok (.iload_n 0, 1) := by decide +kernel
theorem dX5_checkSlot_5 : decode cX5_checkSlot 5 = .ok (.iconst 4, 1) := by decide +kernel
theorem dX5_checkSlot_6 : decode cX5_checkSlot 6 = .ok (.if_icmp .lt 14, 3) := by decide +kernel
theorem dX5_checkSlot_9 : decode cX5_checkSlot 9 = .ok (.new 89, 3) := by decide +kernel
theorem dX5_checkSlot_12 : decode cX5_checkSlot 12 = .ok (.dup, 1) := by decide +kernel
theorem dX5_checkSlot_13 : decode cX5_checkSlot 13 = .ok (.ldc_w 343, 3) := by decide +kernel
theorem dX5_checkSlot_16 : decode cX5_checkSlot 16 = .ok (.invokespecial 93, 3) := by decide +kernel
theorem dX5_checkSlot_19 : decode cX5_checkSlot 19 = .ok (.athrow, 1) := by decide +kernel
theorem dX5_checkSlot_20 : decode cX5_checkSlot 20 = .ok (.return_, 1) := by decide +kernel
theorem dX5_checkQuestion_0 : decode cX5_checkQuestion 0 = .ok (.iload_n 0, 1) := by decide +kernel
theorem dX5_checkQuestion_1 : decode cX5_checkQuestion 1 = .ok (.ifCond .lt 8, 3) := by decide +kernel
theorem dX5_checkQuestion_4 : decode cX5_checkQuestion 4 = .ok (.iload_n 0, 1) := by decide +kernel
theorem dX5_checkQuestion_5 : decode cX5_checkQuestion 5 = .ok (.iconst 2, 1) := by decide +kernel
theorem dX5_checkQuestion_6 : decode cX5_checkQuestion 6 = .ok (.if_icmp .le 14, 3) := by decide +kernel
theorem dX5_checkQuestion_9 : decode cX5_checkQuestion 9 = .ok (.new 117, 3) := by decide +kernel
theorem dX5_checkQuestion_12 : decode cX5_checkQuestion 12 = .ok (.dup, 1) := by decide +kernel
theorem dX5_checkQuestion_13 : decode cX5_checkQuestion 13 = .ok (.ldc_w 345, 3) := by decide +kernel
theorem dX5_checkQuestion_16 : decode cX5_checkQuestion 16 = .ok (.invokespecial 121, 3) := by decide +kernel
theorem dX5_checkQuestion_19 : decode cX5_checkQuestion 19 = .ok (.athrow, 1) := by decide +kernel
theorem dX5_checkQuestion_20 : decode cX5_checkQuestion 20 = .ok (.iload_n 1, 1) := by decide +kernel
theorem dX5_checkQuestion_21 : decode cX5_checkQuestion 21 = .ok (.ifCond .lt 9, 3) := by decide +kernel
theorem dX5_checkQuestion_24 : decode cX5_checkQuestion 24 = .ok (.iload_n 1, 1) := by decide +kernel
theorem dX5_checkQuestion_25 : decode cX5_checkQuestion 25 = .ok (.bipush 10, 2) := by decide +kernel
theorem dX5_checkQuestion_27 : decode cX5_checkQuestion 27 = .ok (.if_icmp .lt 14, 3) := by decide +kernel
theorem dX5_checkQuestion_30 : decode cX5_checkQuestion 30 = .ok (.new 117, 3) := by decide +kernel
theorem dX5_checkQuestion_33 : decode cX5_checkQuestion 33 = .ok (.dup, 1) := by decide +kernel
theorem dX5_checkQuestion_34 : decode cX5_checkQuestion 34 = .ok (.ldc_w 347, 3) := by decide +kernel
theorem dX5_checkQuestion_37 : decode cX5_checkQuestion 37 = .ok (.invokespecial 121, 3) := by decide +kernel
theorem dX5_checkQuestion_40 : decode cX5_checkQuestion 40 = .ok (.athrow, 1) := by decide +kernel
theorem dX5_checkQuestion_41 : decode cX5_checkQuestion 41 = .ok (.return_, 1) := by decide +kernel
theorem dX5_checkCase_0 : decode cX5_checkCase 0 = .ok (.iload_n 0, 1) := by decide +kernel
theorem dX5_checkCase_1 : decode cX5_checkCase 1 = .ok (.ifCond .lt 10, 3) := by decide +kernel
theorem dX5_checkCase_4 : decode cX5_checkCase 4 = .ok (.iload_n 0, 1) := by decide +kernel
theorem dX5_checkCase_5 : decode cX5_checkCase 5 = .ok (.sipush 10000, 3) := by decide +kernel
theorem dX5_checkCase_8 : decode cX5_checkCase 8 = .ok (.if_icmp .lt 14, 3) := by decide +kernel
theorem dX5_checkCase_11 : decode cX5_checkCase 11 = .ok (.new 117, 3) := by decide +kernel
theorem dX5_checkCase_14 : decode cX5_checkCase 14 = .ok (.dup, 1) := by decide +kernel
theorem dX5_checkCase_15 : decode cX5_checkCase 15 = .ok (.ldc_w 349, 3) := by decide +kernel
theorem dX5_checkCase_18 : decode cX5_checkCase 18 = .ok (.invokespecial 121, 3) := by decide +kernel
theorem dX5_checkCase_21 : decode cX5_checkCase 21 = .ok (.athrow, 1) := by decide +kernel
theorem dX5_checkCase_22 : decode cX5_checkCase 22 = .ok (.return_, 1) := by decide +kernel
theorem dX5_checkWeight_0 : decode cX5_checkWeight 0 = .ok (.iload_n 0, 1) := by decide +kernel
theorem dX5_checkWeight_1 : decode cX5_checkWeight 1 = .ok (.ifCond .lt 9, 3) := by decide +kernel
theorem dX5_checkWeight_4 : decode cX5_checkWeight 4 = .ok (.iload_n 0, 1) := by decide +kernel
theorem dX5_checkWeight_5 : decode cX5_checkWeight 5 = .ok (.bipush 9, 2) := by decide +kernel
theorem dX5_checkWeight_7 : decode cX5_checkWeight 7 = .ok (.if_icmp .le 14, 3) := by decide +kernel
theorem dX5_checkWeight_10 : decode cX5_checkWeight 10 = .ok (.new 117, 3) := by decide +kernel
theorem dX5_checkWeight_13 : decode cX5_checkWeight 13 = .ok (.dup, 1) := by decide +kernel
theorem dX5_checkWeight_14 : decode cX5_checkWeight 14 = .ok (.ldc_w 351, 3) := by decide +kernel
theorem dX5_checkWeight_17 : decode cX5_checkWeight 17 = .ok (.invokespecial 121, 3) := by decide +kernel
theorem dX5_checkWeight_20 : decode cX5_checkWeight 20 = .ok (.athrow, 1) := by decide +kernel
theorem dX5_checkWeight_21 : decode cX5_checkWeight 21 = .ok (.return_, 1) := by decide +kernel
theorem dX5_checkRoom_0 : decode cX5_checkRoom 0 = .ok (.aload_n 0, 1) := by decide +kernel
theorem dX5_checkRoom_1 : decode cX5_checkRoom 1 = .ok (.getfield 33, 3) := by decide +kernel
theorem dX5_checkRoom_4 : decode cX5_checkRoom 4 = .ok (.getfield 151, 3) := by decide +kernel
theorem dX5_checkRoom_7 : decode cX5_checkRoom 7 = .ok (.bipush 40, 2) := by decide +kernel
theorem dX5_checkRoom_9 : decode cX5_checkRoom 9 = .ok (.if_icmp .lt 14, 3) := by decide +kernel
theorem dX5_checkRoom_12 : decode cX5_checkRoom 12 = .ok (.new 137, 3) := by decide +kernel
theorem dX5_checkRoom_15 : decode cX5_checkRoom 15 = .ok (.dup, 1) := by decide +kernel
theorem dX5_checkRoom_16 : decode cX5_checkRoom 16 = .ok (.ldc_w 353, 3) := by decide +kernel
theorem dX5_checkRoom_19 : decode cX5_checkRoom 19 = .ok (.invokespecial 141, 3) := by decide +kernel
theorem dX5_checkRoom_22 : decode cX5_checkRoom 22 = .ok (.athrow, 1) := by decide +kernel
theorem dX5_checkRoom_23 : decode cX5_checkRoom 23 = .ok (.return_, 1) := by decide +kernel
theorem dX5_checkRelation_0 : decode cX5_checkRelation 0 = .ok (.iload_n 1, 1) := by decide +kernel
theorem dX5_checkRelation_1 : decode cX5_checkRelation 1 = .ok (.ifCond .lt 20, 3) := by decide +kernel
theorem dX5_checkRelation_4 : decode cX5_checkRelation 4 = .ok (.iload_n 1, 1) := by decide +kernel
theorem dX5_checkRelation_5 : decode cX5_checkRelation 5 = .ok (.aload_n 0, 1) := by decide +kernel
theorem dX5_checkRelation_6 : decode cX5_checkRelation 6 = .ok (.getfield 40, 3) := by decide +kernel
theorem dX5_checkRelation_9 : decode cX5_checkRelation 9 = .ok (.getfield 205, 3) := by decide +kernel
theorem dX5_checkRelation_12 : decode cX5_checkRelation 12 = .ok (.if_icmp .ge 9, 3) := by decide +kernel
theorem dX5_checkRelation_15 : decode cX5_checkRelation 15 = .ok (.iload_n 1, 1) := by decide +kernel
theorem dX5_checkRelation_16 : decode cX5_checkRelation 16 = .ok (.bipush 6, 2) := by decide +kernel
theorem dX5_checkRelation_18 : decode cX5_checkRelation 18 = .ok (.if_icmp .lt 14, 3) := by decide +kernel
theorem dX5_checkRelation_21 : decode cX5_checkRelation 21 = .ok (.new 89, 3) := by decide +kernel
theorem dX5_checkRelation_24 : decode cX5_checkRelation 24 = .ok (.dup, 1) := by decide +kernel
theorem dX5_checkRelation_25 : decode cX5_checkRelation 25 = .ok (.ldc_w 355, 3) := by decide +kernel
theorem dX5_checkRelation_28 : decode cX5_checkRelation 28 = .ok (.invokespecial 93, 3) := by decide +kernel
theorem dX5_checkRelation_31 : decode cX5_checkRelation 31 = .ok (.athrow, 1) := by decide +kernel
theorem dX5_checkRelation_32 : decode cX5_checkRelation 32 = .ok (.return_, 1) := by decide +kernel
theorem dX5_isNode_0 : decode cX5_isNode 0 = .ok (.iload_n 0, 1) := by decide +kernel
theorem dX5_isNode_1 : decode cX5_isNode 1 = .ok (.ifCond .lt 13, 3) := by decide +kernel
theorem dX5_isNode_4 : decode cX5_isNode 4 = .ok (.iload_n 0, 1) := by decide +kernel
theorem dX5_isNode_5 : decode cX5_isNode 5 = .ok (.bipush 12, 2) := by decide +kernel
theorem dX5_isNode_7 : decode cX5_isNode 7 = .ok (.if_icmp .ge 7, 3) := by decide +kernel
theorem dX5_isNode_10 : decode cX5_isNode 10 = .ok (.iconst 1, 1) := by decide +kernel
theorem dX5_isNode_11 : decode cX5_isNode 11 = .ok (.goto 4, 3) := by decide +kernel
theorem dX5_isNode_14 : decode cX5_isNode 14 = .ok (.iconst 0, 1) := by decide +kernel
theorem dX5_isNode_15 : decode cX5_isNode 15 = .ok (.ireturn, 1) := by decide +kernel
theorem dX5_valueOf_0 : decode cX5_valueOf 0 = .ok (.iload_n 1, 1) := by decide +kernel
theorem dX5_valueOf_1 : decode cX5_valueOf 1 = .ok (.tableswitch 52 0 2 #[27, 36, 44], 27) := by decide +kernel
theorem dX5_valueOf_28 : decode cX5_valueOf 28 = .ok (.iload_n 0, 1) := by decide +kernel
theorem dX5_valueOf_29 : decode cX5_valueOf 29 = .ok (.sipush 1000, 3) := by decide +kernel
theorem dX5_valueOf_32 : decode cX5_valueOf 32 = .ok (.idiv, 1) := by decide +kernel
theorem dX5_valueOf_33 : decode cX5_valueOf 33 = .ok (.bipush 10, 2) := by decide +kernel
theorem dX5_valueOf_35 : decode cX5_valueOf 35 = .ok (.irem, 1) := by decide +kernel
theorem dX5_valueOf_36 : decode cX5_valueOf 36 = .ok (.ireturn, 1) := by decide +kernel
theorem dX5_valueOf_37 : decode cX5_valueOf 37 = .ok (.iload_n 0, 1) := by decide +kernel
theorem dX5_valueOf_38 : decode cX5_valueOf 38 = .ok (.bipush 100, 2) := by decide +kernel
theorem dX5_valueOf_40 : decode cX5_valueOf 40 = .ok (.idiv, 1) := by decide +kernel
theorem dX5_valueOf_41 : decode cX5_valueOf 41 = .ok (.bipush 10, 2) := by decide +kernel
theorem dX5_valueOf_43 : decode cX5_valueOf 43 = .ok (.irem, 1) := by decide +kernel
theorem dX5_valueOf_44 : decode cX5_valueOf 44 = .ok (.ireturn, 1) := by decide +kernel
theorem dX5_valueOf_45 : decode cX5_valueOf 45 = .ok (.iload_n 0, 1) := by decide +kernel
theorem dX5_valueOf_46 : decode cX5_valueOf 46 = .ok (.bipush 10, 2) := by decide +kernel
theorem dX5_valueOf_48 : decode cX5_valueOf 48 = .ok (.idiv, 1) := by decide +kernel
theorem dX5_valueOf_49 : decode cX5_valueOf 49 = .ok (.bipush 10, 2) := by decide +kernel
theorem dX5_valueOf_51 : decode cX5_valueOf 51 = .ok (.irem, 1) := by decide +kernel
theorem dX5_valueOf_52 : decode cX5_valueOf 52 = .ok (.ireturn, 1) := by decide +kernel
theorem dX5_valueOf_53 : decode cX5_valueOf 53 = .ok (.iload_n 0, 1) := by decide +kernel
theorem dX5_valueOf_54 : decode cX5_valueOf 54 = .ok (.bipush 10, 2) := by decide +kernel
theorem dX5_valueOf_56 : decode cX5_valueOf 56 = .ok (.irem, 1) := by decide +kernel
theorem dX5_valueOf_57 : decode cX5_valueOf 57 = .ok (.ireturn, 1) := by decide +kernel
theorem dX5_placeOf_0 : decode cX5_placeOf 0 = .ok (.iload_n 0, 1) := by decide +kernel
theorem dX5_placeOf_1 : decode cX5_placeOf 1 = .ok (.tableswitch 37 0 2 #[27, 31, 34], 27) := by decide +kernel
theorem dX5_placeOf_28 : decode cX5_placeOf 28 = .ok (.sipush 1000, 3) := by decide +kernel
theorem dX5_placeOf_31 : decode cX5_placeOf 31 = .ok (.ireturn, 1) := by decide +kernel
theorem dX5_placeOf_32 : decode cX5_placeOf 32 = .ok (.bipush 100, 2) := by decide +kernel
theorem dX5_placeOf_34 : decode cX5_placeOf 34 = .ok (.ireturn, 1) := by decide +kernel
theorem dX5_placeOf_35 : decode cX5_placeOf 35 = .ok (.bipush 10, 2) := by decide +kernel
theorem dX5_placeOf_37 : decode cX5_placeOf 37 = .ok (.ireturn, 1) := by decide +kernel
theorem dX5_placeOf_38 : decode cX5_placeOf 38 = .ok (.iconst 1, 1) := by decide +kernel
theorem dX5_placeOf_39 : decode cX5_placeOf 39 = .ok (.ireturn, 1) := by decide +kernel
set_option maxRecDepth 20000 in
theorem ggX5_withValue_X5_valueOf : GoodIn wsX5_withValue wsX5_valueOf := goodIn_r _ [4] (by decide +kernel) (by decide +kernel)
set_option maxRecDepth 20000 in
theorem gX5_withValue_X5_valueOf : GoodIn wsX5_withValue (va_wsS RX5 323 yX5_valueOf wsX5_valueOf) := goodIn_app (goodIn_of _ (by decide +kernel)) ggX5_withValue_X5_valueOf
set_option maxRecDepth 20000 in
theorem ggX5_withValue_X5_placeOf : GoodIn wsX5_withValue wsX5_placeOf := goodIn_r _ [7] (by decide +kernel) (by decide +kernel)
set_option maxRecDepth 20000 in
theorem gX5_withValue_X5_placeOf : GoodIn wsX5_withValue (va_wsS RX5 357 yX5_placeOf wsX5_placeOf) := goodIn_app (goodIn_of _ (by decide +kernel)) ggX5_withValue_X5_placeOf
theorem dX5_withValue_0 : decode cX5_withValue 0 = .ok (.iload_n 0, 1) := by decide +kernel
theorem dX5_withValue_1 : decode cX5_withValue 1 = .ok (.iload_n 2, 1) := by decide +kernel
theorem dX5_withValue_2 : decode cX5_withValue 2 = .ok (.iload_n 0, 1) := by decide +kernel
theorem dX5_withValue_3 : decode cX5_withValue 3 = .ok (.iload_n 1, 1) := by decide +kernel
theorem dX5_withValue_4 : decode cX5_withValue 4 = .ok (.invokestatic 323, 3) := by decide +kernel
theorem dX5_withValue_7 : decode cX5_withValue 7 = .ok (.isub, 1) := by decide +kernel
theorem dX5_withValue_8 : decode cX5_withValue 8 = .ok (.iload_n 1, 1) := by decide +kernel
theorem dX5_withValue_9 : decode cX5_withValue 9 = .ok (.invokestatic 357, 3) := by decide +kernel
theorem dX5_withValue_12 : decode cX5_withValue 12 = .ok (.imul, 1) := by decide +kernel
theorem dX5_withValue_13 : decode cX5_withValue 13 = .ok (.iadd, 1) := by decide +kernel
theorem dX5_withValue_14 : decode cX5_withValue 14 = .ok (.ireturn, 1) := by decide +kernel
theorem dX5_bit_0 : decode cX5_bit 0 = .ok (.lconst 1, 1) := by decide +kernel
theorem dX5_bit_1 : decode cX5_bit 1 = .ok (.iload_n 0, 1) := by decide +kernel
theorem dX5_bit_2 : decode cX5_bit 2 = .ok (.lshl, 1) := by decide +kernel
theorem dX5_bit_3 : decode cX5_bit 3 = .ok (.lreturn, 1) := by decide +kernel
theorem dX5_contains_0 : decode cX5_contains 0 = .ok (.lload_n 0, 1) := by decide +kernel
theorem dX5_contains_1 : decode cX5_contains 1 = .ok (.iload_n 2, 1) := by decide +kernel
theorem dX5_contains_2 : decode cX5_contains 2 = .ok (.lushr, 1) := by decide +kernel
theorem dX5_contains_3 : decode cX5_contains 3 = .ok (.lconst 1, 1) := by decide +kernel
theorem dX5_contains_4 : decode cX5_contains 4 = .ok (.land, 1) := by decide +kernel
theorem dX5_contains_5 : decode cX5_contains 5 = .ok (.lconst 0, 1) := by decide +kernel
theorem dX5_contains_6 : decode cX5_contains 6 = .ok (.lcmp, 1) := by decide +kernel
theorem dX5_contains_7 : decode cX5_contains 7 = .ok (.ifCond .eq 7, 3) := by decide +kernel
theorem dX5_contains_10 : decode cX5_contains 10 = .ok (.iconst 1, 1) := by decide +kernel
theorem dX5_contains_11 : decode cX5_contains 11 = .ok (.goto 4, 3) := by decide +kernel
theorem dX5_contains_14 : decode cX5_contains 14 = .ok (.iconst 0, 1) := by decide +kernel
theorem dX5_contains_15 : decode cX5_contains 15 = .ok (.ireturn, 1) := by decide +kernel
set_option maxRecDepth 20000 in
theorem ggX5_edgesIn_J13_bitCount_95d88 : GoodIn wsX5_edgesIn wsJ13_bitCount_95d88 := goodIn_r _ [5, 6, 7, 8] (by decide +kernel) (by decide +kernel)
set_option maxRecDepth 20000 in
theorem gX5_edgesIn_J13_bitCount_95d88 : GoodIn wsX5_edgesIn (va_wsS RX5 187 yJ13_bitCount_95d88 wsJ13_bitCount_95d88) := goodIn_app (goodIn_of _ (by decide +kernel)) ggX5_edgesIn_J13_bitCount_95d88
theorem dX5_edgesIn_0 : decode cX5_edgesIn 0 = .ok (.lload_n 0, 1) := by decide +kernel
theorem dX5_edgesIn_1 : decode cX5_edgesIn 1 = .ok (.ldc2_w 249, 3) := by decide +kernel
theorem dX5_edgesIn_4 : decode cX5_edgesIn 4 = .ok (.land, 1) := by decide +kernel
theorem dX5_edgesIn_5 : decode cX5_edgesIn 5 = .ok (.invokestatic 187, 3) := by decide +kernel
theorem dX5_edgesIn_8 : decode cX5_edgesIn 8 = .ok (.ireturn, 1) := by decide +kernel
theorem dX5_outcomeOf_0 : decode cX5_outcomeOf 0 = .ok (.iload_n 0, 1) := by decide +kernel
theorem dX5_outcomeOf_1 : decode cX5_outcomeOf 1 = .ok (.bipush 100, 2) := by decide +kernel
theorem dX5_outcomeOf_3 : decode cX5_outcomeOf 3 = .ok (.if_icmp .ge 7, 3) := by decide +kernel
theorem dX5_outcomeOf_6 : decode cX5_outcomeOf 6 = .ok (.iload_n 0, 1) := by decide +kernel
theorem dX5_outcomeOf_7 : decode cX5_outcomeOf 7 = .ok (.goto 10, 3) := by decide +kernel
theorem dX5_outcomeOf_10 : decode cX5_outcomeOf 10 = .ok (.iload_n 0, 1) := by decide +kernel
theorem dX5_outcomeOf_11 : decode cX5_outcomeOf 11 = .ok (.bipush 100, 2) := by decide +kernel
theorem dX5_outcomeOf_13 : decode cX5_outcomeOf 13 = .ok (.isub, 1) := by decide +kernel
theorem dX5_outcomeOf_14 : decode cX5_outcomeOf 14 = .ok (.bipush 24, 2) := by decide +kernel
theorem dX5_outcomeOf_16 : decode cX5_outcomeOf 16 = .ok (.iadd, 1) := by decide +kernel
theorem dX5_outcomeOf_17 : decode cX5_outcomeOf 17 = .ok (.ireturn, 1) := by decide +kernel
set_option maxRecDepth 20000 in
theorem ggX6_init_X5_init : GoodIn wsX6_init wsX5_init := goodIn_r _ [19, 20, 2, 3, 21, 22, 23, 24, 25, 26, 27, 28, 29, 30, 31, 32, 33, 34, 35, 36, 37, 38, 39, 40, 41, 42, 43, 44, 16, 45, 46, 47, 48, 49, 50, 51, 52, 53, 54, 55, 56, 57, 58, 59, 60, 61, 62, 63, 64, 65, 66, 67, 68, 69, 70, 71, 72, 73, 74, 75, 76, 77, 78, 79, 80, 81, 95, 96, 97, 98, 99, 82, 83, 84, 85, 86, 100, 101, 102, 103, 104, 105, 106, 107, 108, 109, 110, 111, 112, 113, 114, 115, 116, 117] (by decide +kernel) (by decide +kernel)
set_option maxRecDepth 20000 in
theorem gX6_init_X5_init : GoodIn wsX6_init (wsX5_init) := ggX6_init_X5_init
theorem dX6_init_0 : decode cX6_init 0 = .ok (.aload_n 0, 1) := by decide +kernel
theorem dX6_init_1 : decode cX6_init 1 = .ok (.invokespecial 1, 3) := by decide +kernel
theorem dX6_init_4 : decode cX6_init 4 = .ok (.aload_n 0, 1) := by decide +kernel
theorem dX6_init_5 : decode cX6_init 5 = .ok (.new 7, 3) := by decide +kernel
theorem dX6_init_8 : decode cX6_init 8 = .ok (.dup, 1) := by decide +kernel
theorem dX6_init_9 : decode cX6_init 9 = .ok (.invokespecial 9, 3) := by decide +kernel
theorem dX6_init_12 : decode cX6_init 12 = .ok (.putfield 10, 3) := by decide +kernel
theorem dX6_init_15 : decode cX6_init 15 = .ok (.aload_n 0, 1) := by decide +kernel
theorem dX6_init_16 : decode cX6_init 16 = .ok (.bipush 12, 2) := by decide +kernel
theorem dX6_init_18 : decode cX6_init 18 = .ok (.anewarray 16, 3) := by decide +kernel
theorem dX6_init_21 : decode cX6_init 21 = .ok (.putfield 18, 3) := by decide +kernel
theorem dX6_init_24 : decode cX6_init 24 = .ok (.aload_n 0, 1) := by decide +kernel
theorem dX6_init_25 : decode cX6_init 25 = .ok (.iconst 4, 1) := by decide +kernel
theorem dX6_init_26 : decode cX6_init 26 = .ok (.anewarray 16, 3) := by decide +kernel
theorem dX6_init_29 : decode cX6_init 29 = .ok (.putfield 22, 3) := by decide +kernel
theorem dX6_init_32 : decode cX6_init 32 = .ok (.aload_n 0, 1) := by decide +kernel
theorem dX6_init_33 : decode cX6_init 33 = .ok (.iconst 1, 1) := by decide +kernel
theorem dX6_init_34 : decode cX6_init 34 = .ok (.putfield 25, 3) := by decide +kernel
theorem dX6_init_37 : decode cX6_init 37 = .ok (.aload_n 0, 1) := by decide +kernel
theorem dX6_init_38 : decode cX6_init 38 = .ok (.iconst 0, 1) := by decide +kernel
theorem dX6_init_39 : decode cX6_init 39 = .ok (.anewarray 16, 3) := by decide +kernel
theorem dX6_init_42 : decode cX6_init 42 = .ok (.putfield 29, 3) := by decide +kernel
theorem dX6_init_45 : decode cX6_init 45 = .ok (.aload_n 0, 1) := by decide +kernel
theorem dX6_init_46 : decode cX6_init 46 = .ok (.iconst 0, 1) := by decide +kernel
theorem dX6_init_47 : decode cX6_init 47 = .ok (.anewarray 16, 3) := by decide +kernel
theorem dX6_init_50 : decode cX6_init 50 = .ok (.putfield 32, 3) := by decide +kernel
theorem dX6_init_53 : decode cX6_init 53 = .ok (.aload_n 0, 1) := by decide +kernel
theorem dX6_init_54 : decode cX6_init 54 = .ok (.aload_n 1, 1) := by decide +kernel
theorem dX6_init_55 : decode cX6_init 55 = .ok (.putfield 35, 3) := by decide +kernel
theorem dX6_init_58 : decode cX6_init 58 = .ok (.aload_n 0, 1) := by decide +kernel
theorem dX6_init_59 : decode cX6_init 59 = .ok (.iload_n 2, 1) := by decide +kernel
theorem dX6_init_60 : decode cX6_init 60 = .ok (.putfield 38, 3) := by decide +kernel
theorem dX6_init_63 : decode cX6_init 63 = .ok (.iconst 0, 1) := by decide +kernel
theorem dX6_init_64 : decode cX6_init 64 = .ok (.istore_n 3, 1) := by decide +kernel
theorem dX6_init_65 : decode cX6_init 65 = .ok (.iload_n 3, 1) := by decide +kernel
theorem dX6_init_66 : decode cX6_init 66 = .ok (.bipush 12, 2) := by decide +kernel
theorem dX6_init_68 : decode cX6_init 68 = .ok (.if_icmp .ge 47, 3) := by decide +kernel
theorem dX6_init_71 : decode cX6_init 71 = .ok (.bipush 6, 2) := by decide +kernel
theorem dX6_init_73 : decode cX6_init 73 = .ok (.newarray .int, 2) := by decide +kernel
theorem dX6_init_75 : decode cX6_init 75 = .ok (.dup, 1) := by decide +kernel
theorem dX6_init_76 : decode cX6_init 76 = .ok (.iconst 0, 1) := by decide +kernel
theorem dX6_init_77 : decode cX6_init 77 = .ok (.iconst 0, 1) := by decide +kernel
theorem dX6_init_78 : decode cX6_init 78 = .ok (.iastore, 1) := by decide +kernel
theorem dX6_init_79 : decode cX6_init 79 = .ok (.dup, 1) := by decide +kernel
theorem dX6_init_80 : decode cX6_init 80 = .ok (.iconst 1, 1) := by decide +kernel
theorem dX6_init_81 : decode cX6_init 81 = .ok (.iconst 0, 1) := by decide +kernel
theorem dX6_init_82 : decode cX6_init 82 = .ok (.iastore, 1) := by decide +kernel
theorem dX6_init_83 : decode cX6_init 83 = .ok (.dup, 1) := by decide +kernel
theorem dX6_init_84 : decode cX6_init 84 = .ok (.iconst 2, 1) := by decide +kernel
theorem dX6_init_85 : decode cX6_init 85 = .ok (.iconst 0, 1) := by decide +kernel
theorem dX6_init_86 : decode cX6_init 86 = .ok (.iastore, 1) := by decide +kernel
theorem dX6_init_87 : decode cX6_init 87 = .ok (.dup, 1) := by decide +kernel
theorem dX6_init_88 : decode cX6_init 88 = .ok (.iconst 3, 1) := by decide +kernel
theorem dX6_init_89 : decode cX6_init 89 = .ok (.iconst (-1), 1) := by decide +kernel
theorem dX6_init_90 : decode cX6_init 90 = .ok (.iastore, 1) := by decide +kernel
theorem dX6_init_91 : decode cX6_init 91 = .ok (.dup, 1) := by decide +kernel
theorem dX6_init_92 : decode cX6_init 92 = .ok (.iconst 4, 1) := by decide +kernel
theorem dX6_init_93 : decode cX6_init 93 = .ok (.iconst (-1), 1) := by decide +kernel
theorem dX6_init_94 : decode cX6_init 94 = .ok (.iastore, 1) := by decide +kernel
theorem dX6_init_95 : decode cX6_init 95 = .ok (.dup, 1) := by decide +kernel
theorem dX6_init_96 : decode cX6_init 96 = .ok (.iconst 5, 1) := by decide +kernel
theorem dX6_init_97 : decode cX6_init 97 = .ok (.iconst 0, 1) := by decide +kernel
theorem dX6_init_98 : decode cX6_init 98 = .ok (.iastore, 1) := by decide +kernel
theorem dX6_init_99 : decode cX6_init 99 = .ok (.astore 4, 2) := by decide +kernel
theorem dX6_init_101 : decode cX6_init 101 = .ok (.aload_n 0, 1) := by decide +kernel
theorem dX6_init_102 : decode cX6_init 102 = .ok (.getfield 18, 3) := by decide +kernel
theorem dX6_init_105 : decode cX6_init 105 = .ok (.iload_n 3, 1) := by decide +kernel
theorem dX6_init_106 : decode cX6_init 106 = .ok (.aload 4, 2) := by decide +kernel
theorem dX6_init_108 : decode cX6_init 108 = .ok (.aastore, 1) := by decide +kernel
theorem dX6_init_109 : decode cX6_init 109 = .ok (.iinc 3 1, 3) := by decide +kernel
theorem dX6_init_112 : decode cX6_init 112 = .ok (.goto (-47), 3) := by decide +kernel
theorem dX6_init_115 : decode cX6_init 115 = .ok (.iconst 0, 1) := by decide +kernel
theorem dX6_init_116 : decode cX6_init 116 = .ok (.istore_n 3, 1) := by decide +kernel
theorem dX6_init_117 : decode cX6_init 117 = .ok (.iload_n 3, 1) := by decide +kernel
theorem dX6_init_118 : decode cX6_init 118 = .ok (.iconst 4, 1) := by decide +kernel
theorem dX6_init_119 : decode cX6_init 119 = .ok (.if_icmp .ge 34, 3) := by decide +kernel
theorem dX6_init_122 : decode cX6_init 122 = .ok (.iconst 3, 1) := by decide +kernel
theorem dX6_init_123 : decode cX6_init 123 = .ok (.newarray .int, 2) := by decide +kernel
theorem dX6_init_125 : decode cX6_init 125 = .ok (.dup, 1) := by decide +kernel
theorem dX6_init_126 : decode cX6_init 126 = .ok (.iconst 0, 1) := by decide +kernel
theorem dX6_init_127 : decode cX6_init 127 = .ok (.iconst 1, 1) := by decide +kernel
theorem dX6_init_128 : decode cX6_init 128 = .ok (.iastore, 1) := by decide +kernel
theorem dX6_init_129 : decode cX6_init 129 = .ok (.dup, 1) := by decide +kernel
theorem dX6_init_130 : decode cX6_init 130 = .ok (.iconst 1, 1) := by decide +kernel
theorem dX6_init_131 : decode cX6_init 131 = .ok (.iconst 1, 1) := by decide +kernel
theorem dX6_init_132 : decode cX6_init 132 = .ok (.iastore, 1) := by decide +kernel
theorem dX6_init_133 : decode cX6_init 133 = .ok (.dup, 1) := by decide +kernel
theorem dX6_init_134 : decode cX6_init 134 = .ok (.iconst 2, 1) := by decide +kernel
theorem dX6_init_135 : decode cX6_init 135 = .ok (.iconst 1, 1) := by decide +kernel
theorem dX6_init_136 : decode cX6_init 136 = .ok (.iastore, 1) := by decide +kernel
theorem dX6_init_137 : decode cX6_init 137 = .ok (.astore 4, 2) := by decide +kernel
theorem dX6_init_139 : decode cX6_init 139 = .ok (.aload_n 0, 1) := by decide +kernel
theorem dX6_init_140 : decode cX6_init 140 = .ok (.getfield 22, 3) := by decide +kernel
theorem dX6_init_143 : decode cX6_init 143 = .ok (.iload_n 3, 1) := by decide +kernel
theorem dX6_init_144 : decode cX6_init 144 = .ok (.aload 4, 2) := by decide +kernel
theorem dX6_init_146 : decode cX6_init 146 = .ok (.aastore, 1) := by decide +kernel
theorem dX6_init_147 : decode cX6_init 147 = .ok (.iinc 3 1, 3) := by decide +kernel
theorem dX6_init_150 : decode cX6_init 150 = .ok (.goto (-33), 3) := by decide +kernel
theorem dX6_init_153 : decode cX6_init 153 = .ok (.return_, 1) := by decide +kernel
set_option maxRecDepth 20000 in
theorem ggX6_any_L_cell : GoodIn wsX6_any wsL_cell := goodIn_r _ [5, 6] (by decide +kernel) (by decide +kernel)
set_option maxRecDepth 20000 in
theorem gX6_any_L_cell_n41 : GoodIn wsX6_any (wsL_cell) := ggX6_any_L_cell
set_option maxRecDepth 20000 in
theorem ggX6_any_L_below : GoodIn wsX6_any wsL_below := goodIn_r _ [8, 9] (by decide +kernel) (by decide +kernel)
set_option maxRecDepth 20000 in
theorem gX6_any_L_below_n47 : GoodIn wsX6_any (wsL_below) := ggX6_any_L_below
theorem dX6_any_0 : decode cX6_any 0 = .ok (.aload_n 0, 1) := by decide +kernel
theorem dX6_any_1 : decode cX6_any 1 = .ok (.getfield 35, 3) := by decide +kernel
theorem dX6_any_4 : decode cX6_any 4 = .ok (.aload_n 0, 1) := by decide +kernel
theorem dX6_any_5 : decode cX6_any 5 = .ok (.getfield 38, 3) := by decide +kernel
theorem dX6_any_8 : decode cX6_any 8 = .ok (.bipush 24, 2) := by decide +kernel
theorem dX6_any_10 : decode cX6_any 10 = .ok (.irem, 1) := by decide +kernel
theorem dX6_any_11 : decode cX6_any 11 = .ok (.invokestatic 41, 3) := by decide +kernel
theorem dX6_any_14 : decode cX6_any 14 = .ok (.aload_n 0, 1) := by decide +kernel
theorem dX6_any_15 : decode cX6_any 15 = .ok (.getfield 38, 3) := by decide +kernel
theorem dX6_any_18 : decode cX6_any 18 = .ok (.bipush 24, 2) := by decide +kernel
theorem dX6_any_20 : decode cX6_any 20 = .ok (.idiv, 1) := by decide +kernel
theorem dX6_any_21 : decode cX6_any 21 = .ok (.bipush 8, 2) := by decide +kernel
theorem dX6_any_23 : decode cX6_any 23 = .ok (.irem, 1) := by decide +kernel
theorem dX6_any_24 : decode cX6_any 24 = .ok (.ishr, 1) := by decide +kernel
theorem dX6_any_25 : decode cX6_any 25 = .ok (.sipush 191, 3) := by decide +kernel
theorem dX6_any_28 : decode cX6_any 28 = .ok (.aload_n 0, 1) := by decide +kernel
theorem dX6_any_29 : decode cX6_any 29 = .ok (.getfield 38, 3) := by decide +kernel
theorem dX6_any_32 : decode cX6_any 32 = .ok (.imul, 1) := by decide +kernel
theorem dX6_any_33 : decode cX6_any 33 = .ok (.iadd, 1) := by decide +kernel
theorem dX6_any_34 : decode cX6_any 34 = .ok (.iload_n 1, 1) := by decide +kernel
theorem dX6_any_35 : decode cX6_any 35 = .ok (.invokestatic 47, 3) := by decide +kernel
theorem dX6_any_38 : decode cX6_any 38 = .ok (.istore_n 2, 1) := by decide +kernel
theorem dX6_any_39 : decode cX6_any 39 = .ok (.aload_n 0, 1) := by decide +kernel
theorem dX6_any_40 : decode cX6_any 40 = .ok (.dup, 1) := by decide +kernel
theorem dX6_any_41 : decode cX6_any 41 = .ok (.getfield 38, 3) := by decide +kernel
theorem dX6_any_44 : decode cX6_any 44 = .ok (.iconst 1, 1) := by decide +kernel
theorem dX6_any_45 : decode cX6_any 45 = .ok (.iadd, 1) := by decide +kernel
theorem dX6_any_46 : decode cX6_any 46 = .ok (.putfield 38, 3) := by decide +kernel
theorem dX6_any_49 : decode cX6_any 49 = .ok (.iload_n 2, 1) := by decide +kernel
theorem dX6_any_50 : decode cX6_any 50 = .ok (.ireturn, 1) := by decide +kernel
theorem dX6_with_0 : decode cX6_with 0 = .ok (.aload_n 0, 1) := by decide +kernel
theorem dX6_with_1 : decode cX6_with 1 = .ok (.arraylength, 1) := by decide +kernel
theorem dX6_with_2 : decode cX6_with 2 = .ok (.iconst 1, 1) := by decide +kernel
theorem dX6_with_3 : decode cX6_with 3 = .ok (.iadd, 1) := by decide +kernel
theorem dX6_with_4 : decode cX6_with 4 = .ok (.anewarray 16, 3) := by decide +kernel
theorem dX6_with_7 : decode cX6_with 7 = .ok (.astore_n 2, 1) := by decide +kernel
theorem dX6_with_8 : decode cX6_with 8 = .ok (.aload_n 0, 1) := by decide +kernel
theorem dX6_with_9 : decode cX6_with 9 = .ok (.iconst 0, 1) := by decide +kernel
theorem dX6_with_10 : decode cX6_with 10 = .ok (.aload_n 2, 1) := by decide +kernel
theorem dX6_with_11 : decode cX6_with 11 = .ok (.iconst 0, 1) := by decide +kernel
theorem dX6_with_12 : decode cX6_with 12 = .ok (.aload_n 0, 1) := by decide +kernel
theorem dX6_with_13 : decode cX6_with 13 = .ok (.arraylength, 1) := by decide +kernel
theorem dX6_with_14 : decode cX6_with 14 = .ok (.invokestatic 51, 3) := by decide +kernel
theorem dX6_with_17 : decode cX6_with 17 = .ok (.aload_n 2, 1) := by decide +kernel
theorem dX6_with_18 : decode cX6_with 18 = .ok (.aload_n 0, 1) := by decide +kernel
theorem dX6_with_19 : decode cX6_with 19 = .ok (.arraylength, 1) := by decide +kernel
theorem dX6_with_20 : decode cX6_with 20 = .ok (.aload_n 1, 1) := by decide +kernel
theorem dX6_with_21 : decode cX6_with 21 = .ok (.aastore, 1) := by decide +kernel
theorem dX6_with_22 : decode cX6_with 22 = .ok (.aload_n 2, 1) := by decide +kernel
theorem dX6_with_23 : decode cX6_with 23 = .ok (.areturn, 1) := by decide +kernel
theorem dX6_slots_0 : decode cX6_slots 0 = .ok (.iconst 4, 1) := by decide +kernel
theorem dX6_slots_1 : decode cX6_slots 1 = .ok (.newarray .int, 2) := by decide +kernel
theorem dX6_slots_3 : decode cX6_slots 3 = .ok (.dup, 1) := by decide +kernel
theorem dX6_slots_4 : decode cX6_slots 4 = .ok (.iconst 0, 1) := by decide +kernel
theorem dX6_slots_5 : decode cX6_slots 5 = .ok (.iload_n 0, 1) := by decide +kernel
theorem dX6_slots_6 : decode cX6_slots 6 = .ok (.sipush 1000, 3) := by decide +kernel
theorem dX6_slots_9 : decode cX6_slots 9 = .ok (.idiv, 1) := by decide +kernel
theorem dX6_slots_10 : decode cX6_slots 10 = .ok (.iastore, 1) := by decide +kernel
theorem dX6_slots_11 : decode cX6_slots 11 = .ok (.dup, 1) := by decide +kernel
theorem dX6_slots_12 : decode cX6_slots 12 = .ok (.iconst 1, 1) := by decide +kernel
theorem dX6_slots_13 : decode cX6_slots 13 = .ok (.iload_n 0, 1) := by decide +kernel
theorem dX6_slots_14 : decode cX6_slots 14 = .ok (.bipush 100, 2) := by decide +kernel
theorem dX6_slots_16 : decode cX6_slots 16 = .ok (.idiv, 1) := by decide +kernel
theorem dX6_slots_17 : decode cX6_slots 17 = .ok (.bipush 10, 2) := by decide +kernel
theorem dX6_slots_19 : decode cX6_slots 19 = .ok (.irem, 1) := by decide +kernel
theorem dX6_slots_20 : decode cX6_slots 20 = .ok (.iastore, 1) := by decide +kernel
theorem dX6_slots_21 : decode cX6_slots 21 = .ok (.dup, 1) := by decide +kernel
theorem dX6_slots_22 : decode cX6_slots 22 = .ok (.iconst 2, 1) := by decide +kernel
theorem dX6_slots_23 : decode cX6_slots 23 = .ok (.iload_n 0, 1) := by decide +kernel
theorem dX6_slots_24 : decode cX6_slots 24 = .ok (.bipush 10, 2) := by decide +kernel
theorem dX6_slots_26 : decode cX6_slots 26 = .ok (.idiv, 1) := by decide +kernel
theorem dX6_slots_27 : decode cX6_slots 27 = .ok (.bipush 10, 2) := by decide +kernel
theorem dX6_slots_29 : decode cX6_slots 29 = .ok (.irem, 1) := by decide +kernel
theorem dX6_slots_30 : decode cX6_slots 30 = .ok (.iastore, 1) := by decide +kernel
theorem dX6_slots_31 : decode cX6_slots 31 = .ok (.dup, 1) := by decide +kernel
theorem dX6_slots_32 : decode cX6_slots 32 = .ok (.iconst 3, 1) := by decide +kernel
theorem dX6_slots_33 : decode cX6_slots 33 = .ok (.iload_n 0, 1) := by decide +kernel
theorem dX6_slots_34 : decode cX6_slots 34 = .ok (.bipush 10, 2) := by decide +kernel
theorem dX6_slots_36 : decode cX6_slots 36 = .ok (.irem, 1) := by decide +kernel
theorem dX6_slots_37 : decode cX6_slots 37 = .ok (.iastore, 1) := by decide +kernel
theorem dX6_slots_38 : decode cX6_slots 38 = .ok (.astore_n 1, 1) := by decide +kernel
theorem dX6_slots_39 : decode cX6_slots 39 = .ok (.aload_n 1, 1) := by decide +kernel
theorem dX6_slots_40 : decode cX6_slots 40 = .ok (.areturn, 1) := by decide +kernel
theorem dX6_tell_0 : decode cX6_tell 0 = .ok (.sipush 1000, 3) := by decide +kernel
theorem dX6_tell_3 : decode cX6_tell 3 = .ok (.aload_n 0, 1) := by decide +kernel
theorem dX6_tell_4 : decode cX6_tell 4 = .ok (.iconst 0, 1) := by decide +kernel
theorem dX6_tell_5 : decode cX6_tell 5 = .ok (.iaload, 1) := by decide +kernel
theorem dX6_tell_6 : decode cX6_tell 6 = .ok (.imul, 1) := by decide +kernel
theorem dX6_tell_7 : decode cX6_tell 7 = .ok (.bipush 100, 2) := by decide +kernel
theorem dX6_tell_9 : decode cX6_tell 9 = .ok (.aload_n 0, 1) := by decide +kernel
theorem dX6_tell_10 : decode cX6_tell 10 = .ok (.iconst 1, 1) := by decide +kernel
theorem dX6_tell_11 : decode cX6_tell 11 = .ok (.iaload, 1) := by decide +kernel
theorem dX6_tell_12 : decode cX6_tell 12 = .ok (.imul, 1) := by decide +kernel
theorem dX6_tell_13 : decode cX6_tell 13 = .ok (.iadd, 1) := by decide +kernel
theorem dX6_tell_14 : decode cX6_tell 14 = .ok (.bipush 10, 2) := by decide +kernel
theorem dX6_tell_16 : decode cX6_tell 16 = .ok (.aload_n 0, 1) := by decide +kernel
theorem dX6_tell_17 : decode cX6_tell 17 = .ok (.iconst 2, 1) := by decide +kernel
theorem dX6_tell_18 : decode cX6_tell 18 = .ok (.iaload, 1) := by decide +kernel
theorem dX6_tell_19 : decode cX6_tell 19 = .ok (.imul, 1) := by decide +kernel
theorem dX6_tell_20 : decode cX6_tell 20 = .ok (.iadd, 1) := by decide +kernel
theorem dX6_tell_21 : decode cX6_tell 21 = .ok (.aload_n 0, 1) := by decide +kernel
theorem dX6_tell_22 : decode cX6_tell 22 = .ok (.iconst 3, 1) := by decide +kernel
theorem dX6_tell_23 : decode cX6_tell 23 = .ok (.iaload, 1) := by decide +kernel
theorem dX6_tell_24 : decode cX6_tell 24 = .ok (.iadd, 1) := by decide +kernel
theorem dX6_tell_25 : decode cX6_tell 25 = .ok (.ireturn, 1) := by decide +kernel
set_option maxRecDepth 20000 in
theorem ggX6_run_X6_slots : GoodIn wsX6_run wsX6_slots := goodIn_r _ [6, 1] (by decide +kernel) (by decide +kernel)
set_option maxRecDepth 20000 in
theorem gX6_run_X6_slots : GoodIn wsX6_run (va_wsS RX6 57 yX6_slots wsX6_slots) := goodIn_app (goodIn_of _ (by decide +kernel)) ggX6_run_X6_slots
set_option maxRecDepth 20000 in
theorem ggX6_run_X6_told : GoodIn wsX6_run wsX6_told := goodIn_r _ [9, 1, 10, 11, 12, 13] (by decide +kernel) (by decide +kernel)
set_option maxRecDepth 20000 in
theorem gX6_run_X6_told : GoodIn wsX6_run (va_wsS RX6 61 yX6_told wsX6_told) := goodIn_app (goodIn_of _ (by decide +kernel)) ggX6_run_X6_told
theorem dX6_run_0 : decode cX6_run 0 = .ok (.bipush 31, 2) := by decide +kernel
theorem dX6_run_2 : decode cX6_run 2 = .ok (.newarray .int, 2) := by decide +kernel
theorem dX6_run_4 : decode cX6_run 4 = .ok (.astore_n 2, 1) := by decide +kernel
theorem dX6_run_5 : decode cX6_run 5 = .ok (.iload_n 1, 1) := by decide +kernel
theorem dX6_run_6 : decode cX6_run 6 = .ok (.invokestatic 57, 3) := by decide +kernel
theorem dX6_run_9 : decode cX6_run 9 = .ok (.astore_n 3, 1) := by decide +kernel
theorem dX6_run_10 : decode cX6_run 10 = .ok (.iconst 0, 1) := by decide +kernel
theorem dX6_run_11 : decode cX6_run 11 = .ok (.istore 4, 2) := by decide +kernel
theorem dX6_run_13 : decode cX6_run 13 = .ok (.iconst 0, 1) := by decide +kernel
theorem dX6_run_14 : decode cX6_run 14 = .ok (.istore 5, 2) := by decide +kernel
theorem dX6_run_16 : decode cX6_run 16 = .ok (.iload 5, 2) := by decide +kernel
theorem dX6_run_18 : decode cX6_run 18 = .ok (.bipush 30, 2) := by decide +kernel
theorem dX6_run_20 : decode cX6_run 20 = .ok (.if_icmp .ge 161, 3) := by decide +kernel
theorem dX6_run_23 : decode cX6_run 23 = .ok (.aload_n 0, 1) := by decide +kernel
theorem dX6_run_24 : decode cX6_run 24 = .ok (.getfield 18, 3) := by decide +kernel
theorem dX6_run_27 : decode cX6_run 27 = .ok (.iload 4, 2) := by decide +kernel
theorem dX6_run_29 : decode cX6_run 29 = .ok (.aaload, 1) := by decide +kernel
theorem dX6_run_30 : decode cX6_run 30 = .ok (.astore 6, 2) := by decide +kernel
theorem dX6_run_32 : decode cX6_run 32 = .ok (.aload 6, 2) := by decide +kernel
theorem dX6_run_34 : decode cX6_run 34 = .ok (.iconst 5, 1) := by decide +kernel
theorem dX6_run_35 : decode cX6_run 35 = .ok (.iaload, 1) := by decide +kernel
theorem dX6_run_36 : decode cX6_run 36 = .ok (.iconst 1, 1) := by decide +kernel
theorem dX6_run_37 : decode cX6_run 37 = .ok (.if_icmp .ne 15, 3) := by decide +kernel
theorem dX6_run_40 : decode cX6_run 40 = .ok (.aload_n 2, 1) := by decide +kernel
theorem dX6_run_41 : decode cX6_run 41 = .ok (.iload 5, 2) := by decide +kernel
theorem dX6_run_43 : decode cX6_run 43 = .ok (.bipush 100, 2) := by decide +kernel
theorem dX6_run_45 : decode cX6_run 45 = .ok (.iload 4, 2) := by decide +kernel
theorem dX6_run_47 : decode cX6_run 47 = .ok (.iadd, 1) := by decide +kernel
theorem dX6_run_48 : decode cX6_run 48 = .ok (.invokestatic 61, 3) := by decide +kernel
theorem dX6_run_51 : decode cX6_run 51 = .ok (.areturn, 1) := by decide +kernel
theorem dX6_run_52 : decode cX6_run 52 = .ok (.aload_n 3, 1) := by decide +kernel
theorem dX6_run_53 : decode cX6_run 53 = .ok (.aload 6, 2) := by decide +kernel
theorem dX6_run_55 : decode cX6_run 55 = .ok (.iconst 0, 1) := by decide +kernel
theorem dX6_run_56 : decode cX6_run 56 = .ok (.iaload, 1) := by decide +kernel
theorem dX6_run_57 : decode cX6_run 57 = .ok (.iaload, 1) := by decide +kernel
theorem dX6_run_58 : decode cX6_run 58 = .ok (.istore 7, 2) := by decide +kernel
theorem dX6_run_60 : decode cX6_run 60 = .ok (.aload 6, 2) := by decide +kernel
theorem dX6_run_62 : decode cX6_run 62 = .ok (.iconst 1, 1) := by decide +kernel
theorem dX6_run_63 : decode cX6_run 63 = .ok (.iaload, 1) := by decide +kernel
theorem dX6_run_64 : decode cX6_run 64 = .ok (.ifCond .ne 12, 3) := by decide +kernel
theorem dX6_run_67 : decode cX6_run 67 = .ok (.iload 7, 2) := by decide +kernel
theorem dX6_run_69 : decode cX6_run 69 = .ok (.aload 6, 2) := by decide +kernel
theorem dX6_run_71 : decode cX6_run 71 = .ok (.iconst 2, 1) := by decide +kernel
theorem dX6_run_72 : decode cX6_run 72 = .ok (.iaload, 1) := by decide +kernel
theorem dX6_run_73 : decode cX6_run 73 = .ok (.if_icmp .lt 37, 3) := by decide +kernel
theorem dX6_run_76 : decode cX6_run 76 = .ok (.aload 6, 2) := by decide +kernel
theorem dX6_run_78 : decode cX6_run 78 = .ok (.iconst 1, 1) := by decide +kernel
theorem dX6_run_79 : decode cX6_run 79 = .ok (.iaload, 1) := by decide +kernel
theorem dX6_run_80 : decode cX6_run 80 = .ok (.iconst 1, 1) := by decide +kernel
theorem dX6_run_81 : decode cX6_run 81 = .ok (.if_icmp .ne 12, 3) := by decide +kernel
theorem dX6_run_84 : decode cX6_run 84 = .ok (.iload 7, 2) := by decide +kernel
theorem dX6_run_86 : decode cX6_run 86 = .ok (.aload 6, 2) := by decide +kernel
theorem dX6_run_88 : decode cX6_run 88 = .ok (.iconst 2, 1) := by decide +kernel
theorem dX6_run_89 : decode cX6_run 89 = .ok (.iaload, 1) := by decide +kernel
theorem dX6_run_90 : decode cX6_run 90 = .ok (.if_icmp .eq 20, 3) := by decide +kernel
theorem dX6_run_93 : decode cX6_run 93 = .ok (.aload 6, 2) := by decide +kernel
theorem dX6_run_95 : decode cX6_run 95 = .ok (.iconst 1, 1) := by decide +kernel
theorem dX6_run_96 : decode cX6_run 96 = .ok (.iaload, 1) := by decide +kernel
theorem dX6_run_97 : decode cX6_run 97 = .ok (.iconst 2, 1) := by decide +kernel
theorem dX6_run_98 : decode cX6_run 98 = .ok (.if_icmp .ne 16, 3) := by decide +kernel
theorem dX6_run_101 : decode cX6_run 101 = .ok (.iload 7, 2) := by decide +kernel
theorem dX6_run_103 : decode cX6_run 103 = .ok (.aload 6, 2) := by decide +kernel
theorem dX6_run_105 : decode cX6_run 105 = .ok (.iconst 2, 1) := by decide +kernel
theorem dX6_run_106 : decode cX6_run 106 = .ok (.iaload, 1) := by decide +kernel
theorem dX6_run_107 : decode cX6_run 107 = .ok (.if_icmp .le 7, 3) := by decide +kernel
theorem dX6_run_110 : decode cX6_run 110 = .ok (.iconst 1, 1) := by decide +kernel
theorem dX6_run_111 : decode cX6_run 111 = .ok (.goto 4, 3) := by decide +kernel
theorem dX6_run_114 : decode cX6_run 114 = .ok (.iconst 0, 1) := by decide +kernel
theorem dX6_run_115 : decode cX6_run 115 = .ok (.istore 8, 2) := by decide +kernel
theorem dX6_run_117 : decode cX6_run 117 = .ok (.aload_n 2, 1) := by decide +kernel
theorem dX6_run_118 : decode cX6_run 118 = .ok (.iload 5, 2) := by decide +kernel
theorem dX6_run_120 : decode cX6_run 120 = .ok (.iload 8, 2) := by decide +kernel
theorem dX6_run_122 : decode cX6_run 122 = .ok (.ifCond .eq 10, 3) := by decide +kernel
theorem dX6_run_125 : decode cX6_run 125 = .ok (.iconst 2, 1) := by decide +kernel
theorem dX6_run_126 : decode cX6_run 126 = .ok (.iload 4, 2) := by decide +kernel
theorem dX6_run_128 : decode cX6_run 128 = .ok (.imul, 1) := by decide +kernel
theorem dX6_run_129 : decode cX6_run 129 = .ok (.goto 9, 3) := by decide +kernel
theorem dX6_run_132 : decode cX6_run 132 = .ok (.iconst 2, 1) := by decide +kernel
theorem dX6_run_133 : decode cX6_run 133 = .ok (.iload 4, 2) := by decide +kernel
theorem dX6_run_135 : decode cX6_run 135 = .ok (.imul, 1) := by decide +kernel
theorem dX6_run_136 : decode cX6_run 136 = .ok (.iconst 1, 1) := by decide +kernel
theorem dX6_run_137 : decode cX6_run 137 = .ok (.iadd, 1) := by decide +kernel
theorem dX6_run_138 : decode cX6_run 138 = .ok (.iastore, 1) := by decide +kernel
theorem dX6_run_139 : decode cX6_run 139 = .ok (.iload 8, 2) := by decide +kernel
theorem dX6_run_141 : decode cX6_run 141 = .ok (.ifCond .eq 10, 3) := by decide +kernel
theorem dX6_run_144 : decode cX6_run 144 = .ok (.aload 6, 2) := by decide +kernel
theorem dX6_run_146 : decode cX6_run 146 = .ok (.iconst 3, 1) := by decide +kernel
theorem dX6_run_147 : decode cX6_run 147 = .ok (.iaload, 1) := by decide +kernel
theorem dX6_run_148 : decode cX6_run 148 = .ok (.goto 7, 3) := by decide +kernel
theorem dX6_run_151 : decode cX6_run 151 = .ok (.aload 6, 2) := by decide +kernel
theorem dX6_run_153 : decode cX6_run 153 = .ok (.iconst 4, 1) := by decide +kernel
theorem dX6_run_154 : decode cX6_run 154 = .ok (.iaload, 1) := by decide +kernel
theorem dX6_run_155 : decode cX6_run 155 = .ok (.istore 4, 2) := by decide +kernel
theorem dX6_run_157 : decode cX6_run 157 = .ok (.iload 4, 2) := by decide +kernel
theorem dX6_run_159 : decode cX6_run 159 = .ok (.ifCond .ge 16, 3) := by decide +kernel
theorem dX6_run_162 : decode cX6_run 162 = .ok (.aload_n 2, 1) := by decide +kernel
theorem dX6_run_163 : decode cX6_run 163 = .ok (.iload 5, 2) := by decide +kernel
theorem dX6_run_165 : decode cX6_run 165 = .ok (.iconst 1, 1) := by decide +kernel
theorem dX6_run_166 : decode cX6_run 166 = .ok (.iadd, 1) := by decide +kernel
theorem dX6_run_167 : decode cX6_run 167 = .ok (.aload_n 2, 1) := by decide +kernel
theorem dX6_run_168 : decode cX6_run 168 = .ok (.iload 5, 2) := by decide +kernel
theorem dX6_run_170 : decode cX6_run 170 = .ok (.iaload, 1) := by decide +kernel
theorem dX6_run_171 : decode cX6_run 171 = .ok (.invokestatic 61, 3) := by decide +kernel
theorem dX6_run_174 : decode cX6_run 174 = .ok (.areturn, 1) := by decide +kernel
theorem dX6_run_175 : decode cX6_run 175 = .ok (.iinc 5 1, 3) := by decide +kernel
theorem dX6_run_178 : decode cX6_run 178 = .ok (.goto (-162), 3) := by decide +kernel
theorem dX6_run_181 : decode cX6_run 181 = .ok (.aload_n 2, 1) := by decide +kernel
theorem dX6_run_182 : decode cX6_run 182 = .ok (.bipush 30, 2) := by decide +kernel
theorem dX6_run_184 : decode cX6_run 184 = .ok (.aload_n 0, 1) := by decide +kernel
theorem dX6_run_185 : decode cX6_run 185 = .ok (.getfield 18, 3) := by decide +kernel
theorem dX6_run_188 : decode cX6_run 188 = .ok (.iload 4, 2) := by decide +kernel
theorem dX6_run_190 : decode cX6_run 190 = .ok (.aaload, 1) := by decide +kernel
theorem dX6_run_191 : decode cX6_run 191 = .ok (.iconst 5, 1) := by decide +kernel
theorem dX6_run_192 : decode cX6_run 192 = .ok (.iaload, 1) := by decide +kernel
theorem dX6_run_193 : decode cX6_run 193 = .ok (.iconst 1, 1) := by decide +kernel
theorem dX6_run_194 : decode cX6_run 194 = .ok (.if_icmp .ne 11, 3) := by decide +kernel
theorem dX6_run_197 : decode cX6_run 197 = .ok (.bipush 100, 2) := by decide +kernel
theorem dX6_run_199 : decode cX6_run 199 = .ok (.iload 4, 2) := by decide +kernel
theorem dX6_run_201 : decode cX6_run 201 = .ok (.iadd, 1) := by decide +kernel
theorem dX6_run_202 : decode cX6_run 202 = .ok (.goto 5, 3) := by decide +kernel
theorem dX6_run_205 : decode cX6_run 205 = .ok (.bipush 112, 2) := by decide +kernel
theorem dX6_run_207 : decode cX6_run 207 = .ok (.invokestatic 61, 3) := by decide +kernel
theorem dX6_run_210 : decode cX6_run 210 = .ok (.areturn, 1) := by decide +kernel
theorem dX6_told_0 : decode cX6_told 0 = .ok (.iload_n 1, 1) := by decide +kernel
theorem dX6_told_1 : decode cX6_told 1 = .ok (.iconst 1, 1) := by decide +kernel
theorem dX6_told_2 : decode cX6_told 2 = .ok (.iadd, 1) := by decide +kernel
theorem dX6_told_3 : decode cX6_told 3 = .ok (.newarray .int, 2) := by decide +kernel
theorem dX6_told_5 : decode cX6_told 5 = .ok (.astore_n 3, 1) := by decide +kernel
theorem dX6_told_6 : decode cX6_told 6 = .ok (.aload_n 0, 1) := by decide +kernel
theorem dX6_told_7 : decode cX6_told 7 = .ok (.iconst 0, 1) := by decide +kernel
theorem dX6_told_8 : decode cX6_told 8 = .ok (.aload_n 3, 1) := by decide +kernel
theorem dX6_told_9 : decode cX6_told 9 = .ok (.iconst 0, 1) := by decide +kernel
theorem dX6_told_10 : decode cX6_told 10 = .ok (.iload_n 1, 1) := by decide +kernel
theorem dX6_told_11 : decode cX6_told 11 = .ok (.invokestatic 51, 3) := by decide +kernel
theorem dX6_told_14 : decode cX6_told 14 = .ok (.aload_n 3, 1) := by decide +kernel
theorem dX6_told_15 : decode cX6_told 15 = .ok (.iload_n 1, 1) := by decide +kernel
theorem dX6_told_16 : decode cX6_told 16 = .ok (.iload_n 2, 1) := by decide +kernel
theorem dX6_told_17 : decode cX6_told 17 = .ok (.iastore, 1) := by decide +kernel
theorem dX6_told_18 : decode cX6_told 18 = .ok (.aload_n 3, 1) := by decide +kernel
theorem dX6_told_19 : decode cX6_told 19 = .ok (.areturn, 1) := by decide +kernel
set_option maxRecDepth 20000 in
theorem ggX6_result_X6_run : GoodIn wsX6_result wsX6_run := goodIn_r _ [5, 6, 7, 8, 9, 4, 10, 11, 12, 13, 14, 15, 16, 17, 18, 19, 20, 21, 22, 23, 24, 25] (by decide +kernel) (by decide +kernel)
set_option maxRecDepth 20000 in
theorem gX6_result_X6_run : GoodIn wsX6_result (wsV RX6 65 RX6 yX6_run wsX6_run) := goodIn_app (goodIn_of _ (by decide +kernel)) ggX6_result_X6_run
theorem dX6_result_0 : decode cX6_result 0 = .ok (.aload_n 0, 1) := by decide +kernel
theorem dX6_result_1 : decode cX6_result 1 = .ok (.iload_n 1, 1) := by decide +kernel
theorem dX6_result_2 : decode cX6_result 2 = .ok (.invokevirtual 65, 3) := by decide +kernel
theorem dX6_result_5 : decode cX6_result 5 = .ok (.astore_n 2, 1) := by decide +kernel
theorem dX6_result_6 : decode cX6_result 6 = .ok (.aload_n 2, 1) := by decide +kernel
theorem dX6_result_7 : decode cX6_result 7 = .ok (.aload_n 2, 1) := by decide +kernel
theorem dX6_result_8 : decode cX6_result 8 = .ok (.arraylength, 1) := by decide +kernel
theorem dX6_result_9 : decode cX6_result 9 = .ok (.iconst 1, 1) := by decide +kernel
theorem dX6_result_10 : decode cX6_result 10 = .ok (.isub, 1) := by decide +kernel
theorem dX6_result_11 : decode cX6_result 11 = .ok (.iaload, 1) := by decide +kernel
theorem dX6_result_12 : decode cX6_result 12 = .ok (.ireturn, 1) := by decide +kernel
set_option maxRecDepth 20000 in
theorem ggX6_covered_X6_run : GoodIn wsX6_covered wsX6_run := goodIn_r _ [6, 7, 8, 9, 10, 5, 11, 12, 13, 14, 15, 16, 17, 18, 19, 20, 21, 22, 23, 24, 25, 26] (by decide +kernel) (by decide +kernel)
set_option maxRecDepth 20000 in
theorem gX6_covered_X6_run : GoodIn wsX6_covered (wsV RX6 65 RX6 yX6_run wsX6_run) := goodIn_app (goodIn_of _ (by decide +kernel)) ggX6_covered_X6_run
theorem dX6_covered_0 : decode cX6_covered 0 = .ok (.bipush 24, 2) := by decide +kernel
theorem dX6_covered_2 : decode cX6_covered 2 = .ok (.newarray .boolean, 2) := by decide +kernel
theorem dX6_covered_4 : decode cX6_covered 4 = .ok (.astore_n 2, 1) := by decide +kernel
theorem dX6_covered_5 : decode cX6_covered 5 = .ok (.aload_n 0, 1) := by decide +kernel
theorem dX6_covered_6 : decode cX6_covered 6 = .ok (.iload_n 1, 1) := by decide +kernel
theorem dX6_covered_7 : decode cX6_covered 7 = .ok (.invokevirtual 65, 3) := by decide +kernel
theorem dX6_covered_10 : decode cX6_covered 10 = .ok (.astore_n 3, 1) := by decide +kernel
theorem dX6_covered_11 : decode cX6_covered 11 = .ok (.iconst 0, 1) := by decide +kernel
theorem dX6_covered_12 : decode cX6_covered 12 = .ok (.istore 4, 2) := by decide +kernel
theorem dX6_covered_14 : decode cX6_covered 14 = .ok (.iload 4, 2) := by decide +kernel
theorem dX6_covered_16 : decode cX6_covered 16 = .ok (.aload_n 3, 1) := by decide +kernel
theorem dX6_covered_17 : decode cX6_covered 17 = .ok (.arraylength, 1) := by decide +kernel
theorem dX6_covered_18 : decode cX6_covered 18 = .ok (.iconst 1, 1) := by decide +kernel
theorem dX6_covered_19 : decode cX6_covered 19 = .ok (.isub, 1) := by decide +kernel
theorem dX6_covered_20 : decode cX6_covered 20 = .ok (.if_icmp .ge 16, 3) := by decide +kernel
theorem dX6_covered_23 : decode cX6_covered 23 = .ok (.aload_n 2, 1) := by decide +kernel
theorem dX6_covered_24 : decode cX6_covered 24 = .ok (.aload_n 3, 1) := by decide +kernel
theorem dX6_covered_25 : decode cX6_covered 25 = .ok (.iload 4, 2) := by decide +kernel
theorem dX6_covered_27 : decode cX6_covered 27 = .ok (.iaload, 1) := by decide +kernel
theorem dX6_covered_28 : decode cX6_covered 28 = .ok (.iconst 1, 1) := by decide +kernel
theorem dX6_covered_29 : decode cX6_covered 29 = .ok (.bastore, 1) := by decide +kernel
theorem dX6_covered_30 : decode cX6_covered 30 = .ok (.iinc 4 1, 3) := by decide +kernel
theorem dX6_covered_33 : decode cX6_covered 33 = .ok (.goto (-19), 3) := by decide +kernel
theorem dX6_covered_36 : decode cX6_covered 36 = .ok (.aload_n 2, 1) := by decide +kernel
theorem dX6_covered_37 : decode cX6_covered 37 = .ok (.areturn, 1) := by decide +kernel
theorem dX6_count_0 : decode cX6_count 0 = .ok (.iconst 0, 1) := by decide +kernel
theorem dX6_count_1 : decode cX6_count 1 = .ok (.istore_n 1, 1) := by decide +kernel
theorem dX6_count_2 : decode cX6_count 2 = .ok (.aload_n 0, 1) := by decide +kernel
theorem dX6_count_3 : decode cX6_count 3 = .ok (.astore_n 2, 1) := by decide +kernel
theorem dX6_count_4 : decode cX6_count 4 = .ok (.aload_n 2, 1) := by decide +kernel
theorem dX6_count_5 : decode cX6_count 5 = .ok (.arraylength, 1) := by decide +kernel
theorem dX6_count_6 : decode cX6_count 6 = .ok (.istore_n 3, 1) := by decide +kernel
theorem dX6_count_7 : decode cX6_count 7 = .ok (.iconst 0, 1) := by decide +kernel
theorem dX6_count_8 : decode cX6_count 8 = .ok (.istore 4, 2) := by decide +kernel
theorem dX6_count_10 : decode cX6_count 10 = .ok (.iload 4, 2) := by decide +kernel
theorem dX6_count_12 : decode cX6_count 12 = .ok (.iload_n 3, 1) := by decide +kernel
theorem dX6_count_13 : decode cX6_count 13 = .ok (.if_icmp .ge 28, 3) := by decide +kernel
theorem dX6_count_16 : decode cX6_count 16 = .ok (.aload_n 2, 1) := by decide +kernel
theorem dX6_count_17 : decode cX6_count 17 = .ok (.iload 4, 2) := by decide +kernel
theorem dX6_count_19 : decode cX6_count 19 = .ok (.baload, 1) := by decide +kernel
theorem dX6_count_20 : decode cX6_count 20 = .ok (.istore 5, 2) := by decide +kernel
theorem dX6_count_22 : decode cX6_count 22 = .ok (.iload_n 1, 1) := by decide +kernel
theorem dX6_count_23 : decode cX6_count 23 = .ok (.iload 5, 2) := by decide +kernel
theorem dX6_count_25 : decode cX6_count 25 = .ok (.ifCond .eq 7, 3) := by decide +kernel
theorem dX6_count_28 : decode cX6_count 28 = .ok (.iconst 1, 1) := by decide +kernel
theorem dX6_count_29 : decode cX6_count 29 = .ok (.goto 4, 3) := by decide +kernel
theorem dX6_count_32 : decode cX6_count 32 = .ok (.iconst 0, 1) := by decide +kernel
theorem dX6_count_33 : decode cX6_count 33 = .ok (.iadd, 1) := by decide +kernel
theorem dX6_count_34 : decode cX6_count 34 = .ok (.istore_n 1, 1) := by decide +kernel
theorem dX6_count_35 : decode cX6_count 35 = .ok (.iinc 4 1, 3) := by decide +kernel
theorem dX6_count_38 : decode cX6_count 38 = .ok (.goto (-28), 3) := by decide +kernel
theorem dX6_count_41 : decode cX6_count 41 = .ok (.iload_n 1, 1) := by decide +kernel
theorem dX6_count_42 : decode cX6_count 42 = .ok (.ireturn, 1) := by decide +kernel
set_option maxRecDepth 20000 in
theorem ggX6_alone_X6_covered : GoodIn wsX6_alone wsX6_covered := goodIn_r _ [6, 7, 8, 9, 10, 5, 11, 12, 13, 14, 15, 16, 17, 18, 19, 20, 21, 22, 23, 27, 28, 29, 30, 31, 32, 33, 34] (by decide +kernel) (by decide +kernel)
set_option maxRecDepth 20000 in
theorem gX6_alone_X6_covered : GoodIn wsX6_alone (wsV RX6 68 RX6 yX6_covered wsX6_covered) := goodIn_app (goodIn_of _ (by decide +kernel)) ggX6_alone_X6_covered
set_option maxRecDepth 20000 in
theorem ggX6_alone_X6_count : GoodIn wsX6_alone wsX6_count := goodIn_r _ [26] (by decide +kernel) (by decide +kernel)
set_option maxRecDepth 20000 in
theorem gX6_alone_X6_count : GoodIn wsX6_alone (va_wsS RX6 72 yX6_count wsX6_count) := goodIn_app (goodIn_of _ (by decide +kernel)) ggX6_alone_X6_count
theorem dX6_alone_0 : decode cX6_alone 0 = .ok (.aload_n 0, 1) := by decide +kernel
theorem dX6_alone_1 : decode cX6_alone 1 = .ok (.iload_n 1, 1) := by decide +kernel
theorem dX6_alone_2 : decode cX6_alone 2 = .ok (.invokevirtual 68, 3) := by decide +kernel
theorem dX6_alone_5 : decode cX6_alone 5 = .ok (.astore_n 2, 1) := by decide +kernel
theorem dX6_alone_6 : decode cX6_alone 6 = .ok (.aload_n 0, 1) := by decide +kernel
theorem dX6_alone_7 : decode cX6_alone 7 = .ok (.getfield 29, 3) := by decide +kernel
theorem dX6_alone_10 : decode cX6_alone 10 = .ok (.astore_n 3, 1) := by decide +kernel
theorem dX6_alone_11 : decode cX6_alone 11 = .ok (.aload_n 3, 1) := by decide +kernel
theorem dX6_alone_12 : decode cX6_alone 12 = .ok (.arraylength, 1) := by decide +kernel
theorem dX6_alone_13 : decode cX6_alone 13 = .ok (.istore 4, 2) := by decide +kernel
theorem dX6_alone_15 : decode cX6_alone 15 = .ok (.iconst 0, 1) := by decide +kernel
theorem dX6_alone_16 : decode cX6_alone 16 = .ok (.istore 5, 2) := by decide +kernel
theorem dX6_alone_18 : decode cX6_alone 18 = .ok (.iload 5, 2) := by decide +kernel
theorem dX6_alone_20 : decode cX6_alone 20 = .ok (.iload 4, 2) := by decide +kernel
theorem dX6_alone_22 : decode cX6_alone 22 = .ok (.if_icmp .ge 79, 3) := by decide +kernel
theorem dX6_alone_25 : decode cX6_alone 25 = .ok (.aload_n 3, 1) := by decide +kernel
theorem dX6_alone_26 : decode cX6_alone 26 = .ok (.iload 5, 2) := by decide +kernel
theorem dX6_alone_28 : decode cX6_alone 28 = .ok (.aaload, 1) := by decide +kernel
theorem dX6_alone_29 : decode cX6_alone 29 = .ok (.astore 6, 2) := by decide +kernel
theorem dX6_alone_31 : decode cX6_alone 31 = .ok (.aload 6, 2) := by decide +kernel
theorem dX6_alone_33 : decode cX6_alone 33 = .ok (.iconst 1, 1) := by decide +kernel
theorem dX6_alone_34 : decode cX6_alone 34 = .ok (.iaload, 1) := by decide +kernel
theorem dX6_alone_35 : decode cX6_alone 35 = .ok (.ifCond .eq 60, 3) := by decide +kernel
theorem dX6_alone_38 : decode cX6_alone 38 = .ok (.aload 6, 2) := by decide +kernel
theorem dX6_alone_40 : decode cX6_alone 40 = .ok (.iconst 0, 1) := by decide +kernel
theorem dX6_alone_41 : decode cX6_alone 41 = .ok (.iaload, 1) := by decide +kernel
theorem dX6_alone_42 : decode cX6_alone 42 = .ok (.iload_n 1, 1) := by decide +kernel
theorem dX6_alone_43 : decode cX6_alone 43 = .ok (.if_icmp .ne 6, 3) := by decide +kernel
theorem dX6_alone_46 : decode cX6_alone 46 = .ok (.goto 49, 3) := by decide +kernel
theorem dX6_alone_49 : decode cX6_alone 49 = .ok (.aload_n 0, 1) := by decide +kernel
theorem dX6_alone_50 : decode cX6_alone 50 = .ok (.aload 6, 2) := by decide +kernel
theorem dX6_alone_52 : decode cX6_alone 52 = .ok (.iconst 0, 1) := by decide +kernel
theorem dX6_alone_53 : decode cX6_alone 53 = .ok (.iaload, 1) := by decide +kernel
theorem dX6_alone_54 : decode cX6_alone 54 = .ok (.invokevirtual 68, 3) := by decide +kernel
theorem dX6_alone_57 : decode cX6_alone 57 = .ok (.astore 7, 2) := by decide +kernel
theorem dX6_alone_59 : decode cX6_alone 59 = .ok (.iconst 0, 1) := by decide +kernel
theorem dX6_alone_60 : decode cX6_alone 60 = .ok (.istore 8, 2) := by decide +kernel
theorem dX6_alone_62 : decode cX6_alone 62 = .ok (.iload 8, 2) := by decide +kernel
theorem dX6_alone_64 : decode cX6_alone 64 = .ok (.bipush 24, 2) := by decide +kernel
theorem dX6_alone_66 : decode cX6_alone 66 = .ok (.if_icmp .ge 29, 3) := by decide +kernel
theorem dX6_alone_69 : decode cX6_alone 69 = .ok (.aload_n 2, 1) := by decide +kernel
theorem dX6_alone_70 : decode cX6_alone 70 = .ok (.iload 8, 2) := by decide +kernel
theorem dX6_alone_72 : decode cX6_alone 72 = .ok (.dup2, 1) := by decide +kernel
theorem dX6_alone_73 : decode cX6_alone 73 = .ok (.baload, 1) := by decide +kernel
theorem dX6_alone_74 : decode cX6_alone 74 = .ok (.aload 7, 2) := by decide +kernel
theorem dX6_alone_76 : decode cX6_alone 76 = .ok (.iload 8, 2) := by decide +kernel
theorem dX6_alone_78 : decode cX6_alone 78 = .ok (.baload, 1) := by decide +kernel
theorem dX6_alone_79 : decode cX6_alone 79 = .ok (.ifCond .ne 7, 3) := by decide +kernel
theorem dX6_alone_82 : decode cX6_alone 82 = .ok (.iconst 1, 1) := by decide +kernel
theorem dX6_alone_83 : decode cX6_alone 83 = .ok (.goto 4, 3) := by decide +kernel
theorem dX6_alone_86 : decode cX6_alone 86 = .ok (.iconst 0, 1) := by decide +kernel
theorem dX6_alone_87 : decode cX6_alone 87 = .ok (.iand, 1) := by decide +kernel
theorem dX6_alone_88 : decode cX6_alone 88 = .ok (.bastore, 1) := by decide +kernel
theorem dX6_alone_89 : decode cX6_alone 89 = .ok (.iinc 8 1, 3) := by decide +kernel
theorem dX6_alone_92 : decode cX6_alone 92 = .ok (.goto (-30), 3) := by decide +kernel
theorem dX6_alone_95 : decode cX6_alone 95 = .ok (.iinc 5 1, 3) := by decide +kernel
theorem dX6_alone_98 : decode cX6_alone 98 = .ok (.goto (-80), 3) := by decide +kernel
theorem dX6_alone_101 : decode cX6_alone 101 = .ok (.aload_n 2, 1) := by decide +kernel
theorem dX6_alone_102 : decode cX6_alone 102 = .ok (.invokestatic 72, 3) := by decide +kernel
theorem dX6_alone_105 : decode cX6_alone 105 = .ok (.ireturn, 1) := by decide +kernel
set_option maxRecDepth 20000 in
theorem ggX6_isOnlyFailure_X6_result : GoodIn wsX6_isOnlyFailure wsX6_result := goodIn_r _ [6, 7, 8, 9, 5, 10, 11, 12, 13, 14, 15, 16, 17, 18, 19, 20, 21, 22, 23, 24, 25, 26, 27, 28, 29, 30] (by decide +kernel) (by decide +kernel)
set_option maxRecDepth 20000 in
theorem gX6_isOnlyFailure_X6_result : GoodIn wsX6_isOnlyFailure (wsV RX6 76 RX6 yX6_result wsX6_result) := goodIn_app (goodIn_of _ (by decide +kernel)) ggX6_isOnlyFailure_X6_result
theorem dX6_isOnlyFailure_0 : decode cX6_isOnlyFailure 0 = .ok (.aload_n 0, 1) := by decide +kernel
theorem dX6_isOnlyFailure_1 : decode cX6_isOnlyFailure 1 = .ok (.iload_n 1, 1) := by decide +kernel
theorem dX6_isOnlyFailure_2 : decode cX6_isOnlyFailure 2 = .ok (.invokevirtual 76, 3) := by decide +kernel
theorem dX6_isOnlyFailure_5 : decode cX6_isOnlyFailure 5 = .ok (.istore_n 2, 1) := by decide +kernel
theorem dX6_isOnlyFailure_6 : decode cX6_isOnlyFailure 6 = .ok (.iload_n 2, 1) := by decide +kernel
theorem dX6_isOnlyFailure_7 : decode cX6_isOnlyFailure 7 = .ok (.bipush 100, 2) := by decide +kernel
theorem dX6_isOnlyFailure_9 : decode cX6_isOnlyFailure 9 = .ok (.if_icmp .ge 5, 3) := by decide +kernel
theorem dX6_isOnlyFailure_12 : decode cX6_isOnlyFailure 12 = .ok (.iconst 0, 1) := by decide +kernel
theorem dX6_isOnlyFailure_13 : decode cX6_isOnlyFailure 13 = .ok (.ireturn, 1) := by decide +kernel
theorem dX6_isOnlyFailure_14 : decode cX6_isOnlyFailure 14 = .ok (.aload_n 0, 1) := by decide +kernel
theorem dX6_isOnlyFailure_15 : decode cX6_isOnlyFailure 15 = .ok (.getfield 29, 3) := by decide +kernel
theorem dX6_isOnlyFailure_18 : decode cX6_isOnlyFailure 18 = .ok (.astore_n 3, 1) := by decide +kernel
theorem dX6_isOnlyFailure_19 : decode cX6_isOnlyFailure 19 = .ok (.aload_n 3, 1) := by decide +kernel
theorem dX6_isOnlyFailure_20 : decode cX6_isOnlyFailure 20 = .ok (.arraylength, 1) := by decide +kernel
theorem dX6_isOnlyFailure_21 : decode cX6_isOnlyFailure 21 = .ok (.istore 4, 2) := by decide +kernel
theorem dX6_isOnlyFailure_23 : decode cX6_isOnlyFailure 23 = .ok (.iconst 0, 1) := by decide +kernel
theorem dX6_isOnlyFailure_24 : decode cX6_isOnlyFailure 24 = .ok (.istore 5, 2) := by decide +kernel
theorem dX6_isOnlyFailure_26 : decode cX6_isOnlyFailure 26 = .ok (.iload 5, 2) := by decide +kernel
theorem dX6_isOnlyFailure_28 : decode cX6_isOnlyFailure 28 = .ok (.iload 4, 2) := by decide +kernel
theorem dX6_isOnlyFailure_30 : decode cX6_isOnlyFailure 30 = .ok (.if_icmp .ge 45, 3) := by decide +kernel
theorem dX6_isOnlyFailure_33 : decode cX6_isOnlyFailure 33 = .ok (.aload_n 3, 1) := by decide +kernel
theorem dX6_isOnlyFailure_34 : decode cX6_isOnlyFailure 34 = .ok (.iload 5, 2) := by decide +kernel
theorem dX6_isOnlyFailure_36 : decode cX6_isOnlyFailure 36 = .ok (.aaload, 1) := by decide +kernel
theorem dX6_isOnlyFailure_37 : decode cX6_isOnlyFailure 37 = .ok (.astore 6, 2) := by decide +kernel
theorem dX6_isOnlyFailure_39 : decode cX6_isOnlyFailure 39 = .ok (.aload 6, 2) := by decide +kernel
theorem dX6_isOnlyFailure_41 : decode cX6_isOnlyFailure 41 = .ok (.iconst 1, 1) := by decide +kernel
theorem dX6_isOnlyFailure_42 : decode cX6_isOnlyFailure 42 = .ok (.iaload, 1) := by decide +kernel
theorem dX6_isOnlyFailure_43 : decode cX6_isOnlyFailure 43 = .ok (.iconst 1, 1) := by decide +kernel
theorem dX6_isOnlyFailure_44 : decode cX6_isOnlyFailure 44 = .ok (.if_icmp .ne 25, 3) := by decide +kernel
theorem dX6_isOnlyFailure_47 : decode cX6_isOnlyFailure 47 = .ok (.aload 6, 2) := by decide +kernel
theorem dX6_isOnlyFailure_49 : decode cX6_isOnlyFailure 49 = .ok (.iconst 0, 1) := by decide +kernel
theorem dX6_isOnlyFailure_50 : decode cX6_isOnlyFailure 50 = .ok (.iaload, 1) := by decide +kernel
theorem dX6_isOnlyFailure_51 : decode cX6_isOnlyFailure 51 = .ok (.iload_n 1, 1) := by decide +kernel
theorem dX6_isOnlyFailure_52 : decode cX6_isOnlyFailure 52 = .ok (.if_icmp .eq 17, 3) := by decide +kernel
theorem dX6_isOnlyFailure_55 : decode cX6_isOnlyFailure 55 = .ok (.aload_n 0, 1) := by decide +kernel
theorem dX6_isOnlyFailure_56 : decode cX6_isOnlyFailure 56 = .ok (.aload 6, 2) := by decide +kernel
theorem dX6_isOnlyFailure_58 : decode cX6_isOnlyFailure 58 = .ok (.iconst 0, 1) := by decide +kernel
theorem dX6_isOnlyFailure_59 : decode cX6_isOnlyFailure 59 = .ok (.iaload, 1) := by decide +kernel
theorem dX6_isOnlyFailure_60 : decode cX6_isOnlyFailure 60 = .ok (.invokevirtual 76, 3) := by decide +kernel
theorem dX6_isOnlyFailure_63 : decode cX6_isOnlyFailure 63 = .ok (.iload_n 2, 1) := by decide +kernel
theorem dX6_isOnlyFailure_64 : decode cX6_isOnlyFailure 64 = .ok (.if_icmp .ne 5, 3) := by decide +kernel
theorem dX6_isOnlyFailure_67 : decode cX6_isOnlyFailure 67 = .ok (.iconst 0, 1) := by decide +kernel
theorem dX6_isOnlyFailure_68 : decode cX6_isOnlyFailure 68 = .ok (.ireturn, 1) := by decide +kernel
theorem dX6_isOnlyFailure_69 : decode cX6_isOnlyFailure 69 = .ok (.iinc 5 1, 3) := by decide +kernel
theorem dX6_isOnlyFailure_72 : decode cX6_isOnlyFailure 72 = .ok (.goto (-46), 3) := by decide +kernel
theorem dX6_isOnlyFailure_75 : decode cX6_isOnlyFailure 75 = .ok (.iconst 1, 1) := by decide +kernel
theorem dX6_isOnlyFailure_76 : decode cX6_isOnlyFailure 76 = .ok (.ireturn, 1) := by decide +kernel
set_option maxRecDepth 20000 in
theorem ggX6_isNeeded_X6_alone : GoodIn wsX6_isNeeded wsX6_alone := goodIn_r _ [5, 6, 7, 8, 9, 4, 10, 11, 12, 13, 14, 15, 16, 17, 18, 19, 20, 21, 22, 23, 24, 25, 26, 27, 28, 29, 30, 39, 40, 41, 42, 43, 44, 45, 46] (by decide +kernel) (by decide +kernel)
set_option maxRecDepth 20000 in
theorem gX6_isNeeded_X6_alone : GoodIn wsX6_isNeeded (wsV RX6 80 RX6 yX6_alone wsX6_alone) := goodIn_app (goodIn_of _ (by decide +kernel)) ggX6_isNeeded_X6_alone
set_option maxRecDepth 20000 in
theorem ggX6_isNeeded_X6_isOnlyFailure : GoodIn wsX6_isNeeded wsX6_isOnlyFailure := goodIn_r _ [34, 6, 35, 36, 37, 4, 38, 12, 13, 14, 15, 16, 17, 18, 19, 20, 21, 22, 23, 24, 25, 26, 27, 39, 40, 41, 42, 43, 44, 45, 46] (by decide +kernel) (by decide +kernel)
set_option maxRecDepth 20000 in
theorem gX6_isNeeded_X6_isOnlyFailure : GoodIn wsX6_isNeeded (wsV RX6 83 RX6 yX6_isOnlyFailure wsX6_isOnlyFailure) := goodIn_app (goodIn_of _ (by decide +kernel)) ggX6_isNeeded_X6_isOnlyFailure
theorem dX6_isNeeded_0 : decode cX6_isNeeded 0 = .ok (.aload_n 0, 1) := by decide +kernel
theorem dX6_isNeeded_1 : decode cX6_isNeeded 1 = .ok (.iload_n 1, 1) := by decide +kernel
theorem dX6_isNeeded_2 : decode cX6_isNeeded 2 = .ok (.invokevirtual 80, 3) := by decide +kernel
theorem dX6_isNeeded_5 : decode cX6_isNeeded 5 = .ok (.ifCond .gt 11, 3) := by decide +kernel
theorem dX6_isNeeded_8 : decode cX6_isNeeded 8 = .ok (.aload_n 0, 1) := by decide +kernel
theorem dX6_isNeeded_9 : decode cX6_isNeeded 9 = .ok (.iload_n 1, 1) := by decide +kernel
theorem dX6_isNeeded_10 : decode cX6_isNeeded 10 = .ok (.invokevirtual 83, 3) := by decide +kernel
theorem dX6_isNeeded_13 : decode cX6_isNeeded 13 = .ok (.ifCond .eq 7, 3) := by decide +kernel
theorem dX6_isNeeded_16 : decode cX6_isNeeded 16 = .ok (.iconst 1, 1) := by decide +kernel
theorem dX6_isNeeded_17 : decode cX6_isNeeded 17 = .ok (.goto 4, 3) := by decide +kernel
theorem dX6_isNeeded_20 : decode cX6_isNeeded 20 = .ok (.iconst 0, 1) := by decide +kernel
theorem dX6_isNeeded_21 : decode cX6_isNeeded 21 = .ok (.ireturn, 1) := by decide +kernel
theorem dX6_kept_0 : decode cX6_kept 0 = .ok (.iconst 0, 1) := by decide +kernel
theorem dX6_kept_1 : decode cX6_kept 1 = .ok (.istore_n 1, 1) := by decide +kernel
theorem dX6_kept_2 : decode cX6_kept 2 = .ok (.aload_n 0, 1) := by decide +kernel
theorem dX6_kept_3 : decode cX6_kept 3 = .ok (.getfield 29, 3) := by decide +kernel
theorem dX6_kept_6 : decode cX6_kept 6 = .ok (.astore_n 2, 1) := by decide +kernel
theorem dX6_kept_7 : decode cX6_kept 7 = .ok (.aload_n 2, 1) := by decide +kernel
theorem dX6_kept_8 : decode cX6_kept 8 = .ok (.arraylength, 1) := by decide +kernel
theorem dX6_kept_9 : decode cX6_kept 9 = .ok (.istore_n 3, 1) := by decide +kernel
theorem dX6_kept_10 : decode cX6_kept 10 = .ok (.iconst 0, 1) := by decide +kernel
theorem dX6_kept_11 : decode cX6_kept 11 = .ok (.istore 4, 2) := by decide +kernel
theorem dX6_kept_13 : decode cX6_kept 13 = .ok (.iload 4, 2) := by decide +kernel
theorem dX6_kept_15 : decode cX6_kept 15 = .ok (.iload_n 3, 1) := by decide +kernel
theorem dX6_kept_16 : decode cX6_kept 16 = .ok (.if_icmp .ge 22, 3) := by decide +kernel
theorem dX6_kept_19 : decode cX6_kept 19 = .ok (.aload_n 2, 1) := by decide +kernel
theorem dX6_kept_20 : decode cX6_kept 20 = .ok (.iload 4, 2) := by decide +kernel
theorem dX6_kept_22 : decode cX6_kept 22 = .ok (.aaload, 1) := by decide +kernel
theorem dX6_kept_23 : decode cX6_kept 23 = .ok (.astore 5, 2) := by decide +kernel
theorem dX6_kept_25 : decode cX6_kept 25 = .ok (.iload_n 1, 1) := by decide +kernel
theorem dX6_kept_26 : decode cX6_kept 26 = .ok (.aload 5, 2) := by decide +kernel
theorem dX6_kept_28 : decode cX6_kept 28 = .ok (.iconst 1, 1) := by decide +kernel
theorem dX6_kept_29 : decode cX6_kept 29 = .ok (.iaload, 1) := by decide +kernel
theorem dX6_kept_30 : decode cX6_kept 30 = .ok (.iadd, 1) := by decide +kernel
theorem dX6_kept_31 : decode cX6_kept 31 = .ok (.istore_n 1, 1) := by decide +kernel
theorem dX6_kept_32 : decode cX6_kept 32 = .ok (.iinc 4 1, 3) := by decide +kernel
theorem dX6_kept_35 : decode cX6_kept 35 = .ok (.goto (-22), 3) := by decide +kernel
theorem dX6_kept_38 : decode cX6_kept 38 = .ok (.iload_n 1, 1) := by decide +kernel
theorem dX6_kept_39 : decode cX6_kept 39 = .ok (.ireturn, 1) := by decide +kernel
set_option maxRecDepth 20000 in
theorem ggX6_drop_X6_isNeeded : GoodIn wsX6_drop wsX6_isNeeded := goodIn_r _ [6, 7, 8, 9, 5, 10, 1, 11, 12, 13, 14, 15, 16, 17, 18, 19, 20, 21, 22, 23, 24, 25, 26, 27, 28, 29, 30, 31, 32, 33, 34, 35, 36, 37, 38, 39, 40, 41, 42, 43, 44, 45, 46, 47, 48, 49, 50] (by decide +kernel) (by decide +kernel)
set_option maxRecDepth 20000 in
theorem gX6_drop_X6_isNeeded : GoodIn wsX6_drop (wsV RX6 87 RX6 yX6_isNeeded wsX6_isNeeded) := goodIn_app (goodIn_of _ (by decide +kernel)) ggX6_drop_X6_isNeeded
theorem dX6_drop_0 : decode cX6_drop 0 = .ok (.aload_n 0, 1) := by decide +kernel
theorem dX6_drop_1 : decode cX6_drop 1 = .ok (.getfield 29, 3) := by decide +kernel
theorem dX6_drop_4 : decode cX6_drop 4 = .ok (.astore_n 1, 1) := by decide +kernel
theorem dX6_drop_5 : decode cX6_drop 5 = .ok (.aload_n 1, 1) := by decide +kernel
theorem dX6_drop_6 : decode cX6_drop 6 = .ok (.arraylength, 1) := by decide +kernel
theorem dX6_drop_7 : decode cX6_drop 7 = .ok (.istore_n 2, 1) := by decide +kernel
theorem dX6_drop_8 : decode cX6_drop 8 = .ok (.iconst 0, 1) := by decide +kernel
theorem dX6_drop_9 : decode cX6_drop 9 = .ok (.istore_n 3, 1) := by decide +kernel
theorem dX6_drop_10 : decode cX6_drop 10 = .ok (.iload_n 3, 1) := by decide +kernel
theorem dX6_drop_11 : decode cX6_drop 11 = .ok (.iload_n 2, 1) := by decide +kernel
theorem dX6_drop_12 : decode cX6_drop 12 = .ok (.if_icmp .ge 38, 3) := by decide +kernel
theorem dX6_drop_15 : decode cX6_drop 15 = .ok (.aload_n 1, 1) := by decide +kernel
theorem dX6_drop_16 : decode cX6_drop 16 = .ok (.iload_n 3, 1) := by decide +kernel
theorem dX6_drop_17 : decode cX6_drop 17 = .ok (.aaload, 1) := by decide +kernel
theorem dX6_drop_18 : decode cX6_drop 18 = .ok (.astore 4, 2) := by decide +kernel
theorem dX6_drop_20 : decode cX6_drop 20 = .ok (.aload 4, 2) := by decide +kernel
theorem dX6_drop_22 : decode cX6_drop 22 = .ok (.iconst 1, 1) := by decide +kernel
theorem dX6_drop_23 : decode cX6_drop 23 = .ok (.iaload, 1) := by decide +kernel
theorem dX6_drop_24 : decode cX6_drop 24 = .ok (.iconst 1, 1) := by decide +kernel
theorem dX6_drop_25 : decode cX6_drop 25 = .ok (.if_icmp .ne 19, 3) := by decide +kernel
theorem dX6_drop_28 : decode cX6_drop 28 = .ok (.aload_n 0, 1) := by decide +kernel
theorem dX6_drop_29 : decode cX6_drop 29 = .ok (.aload 4, 2) := by decide +kernel
theorem dX6_drop_31 : decode cX6_drop 31 = .ok (.iconst 0, 1) := by decide +kernel
theorem dX6_drop_32 : decode cX6_drop 32 = .ok (.iaload, 1) := by decide +kernel
theorem dX6_drop_33 : decode cX6_drop 33 = .ok (.invokevirtual 87, 3) := by decide +kernel
theorem dX6_drop_36 : decode cX6_drop 36 = .ok (.ifCond .ne 8, 3) := by decide +kernel
theorem dX6_drop_39 : decode cX6_drop 39 = .ok (.aload 4, 2) := by decide +kernel
theorem dX6_drop_41 : decode cX6_drop 41 = .ok (.iconst 1, 1) := by decide +kernel
theorem dX6_drop_42 : decode cX6_drop 42 = .ok (.iconst 0, 1) := by decide +kernel
theorem dX6_drop_43 : decode cX6_drop 43 = .ok (.iastore, 1) := by decide +kernel
theorem dX6_drop_44 : decode cX6_drop 44 = .ok (.iinc 3 1, 3) := by decide +kernel
theorem dX6_drop_47 : decode cX6_drop 47 = .ok (.goto (-37), 3) := by decide +kernel
theorem dX6_drop_50 : decode cX6_drop 50 = .ok (.return_, 1) := by decide +kernel
set_option maxRecDepth 20000 in
theorem ggX6_change_X6_isNeeded : GoodIn wsX6_change wsX6_isNeeded := goodIn_r _ [6, 7, 8, 9, 5, 10, 1, 11, 12, 13, 14, 15, 16, 17, 18, 19, 20, 21, 22, 23, 24, 25, 26, 27, 28, 29, 30, 31, 32, 33, 34, 35, 36, 37, 38, 39, 40, 41, 42, 51, 52, 53, 54, 55, 56, 57, 58] (by decide +kernel) (by decide +kernel)
set_option maxRecDepth 20000 in
theorem gX6_change_X6_isNeeded : GoodIn wsX6_change (wsV RX6 87 RX6 yX6_isNeeded wsX6_isNeeded) := goodIn_app (goodIn_of _ (by decide +kernel)) ggX6_change_X6_isNeeded
set_option maxRecDepth 20000 in
theorem ggX6_change_X6_drop : GoodIn wsX6_change wsX6_drop := goodIn_r _ [46, 1, 2, 3, 4, 5, 6, 7, 8, 9, 10, 11, 12, 13, 14, 15, 16, 17, 18, 19, 20, 21, 22, 23, 24, 25, 26, 27, 28, 29, 30, 31, 32, 33, 34, 35, 36, 37, 38, 39, 40, 41, 42, 51, 52, 53, 54, 55, 56, 57, 58] (by decide +kernel) (by decide +kernel)
set_option maxRecDepth 20000 in
theorem gX6_change_X6_drop : GoodIn wsX6_change (wsV RX6 90 RX6 yX6_drop wsX6_drop) := goodIn_app (goodIn_of _ (by decide +kernel)) ggX6_change_X6_drop
set_option maxRecDepth 20000 in
theorem ggX6_change_X6_kept : GoodIn wsX6_change wsX6_kept := goodIn_r _ [50, 1, 51, 52, 53, 54, 55, 56, 57, 58] (by decide +kernel) (by decide +kernel)
set_option maxRecDepth 20000 in
theorem gX6_change_X6_kept : GoodIn wsX6_change (wsV RX6 93 RX6 yX6_kept wsX6_kept) := goodIn_app (goodIn_of _ (by decide +kernel)) ggX6_change_X6_kept
theorem dX6_change_0 : decode cX6_change 0 = .ok (.aload_n 0, 1) := by decide +kernel
theorem dX6_change_1 : decode cX6_change 1 = .ok (.getfield 29, 3) := by decide +kernel
theorem dX6_change_4 : decode cX6_change 4 = .ok (.astore_n 1, 1) := by decide +kernel
theorem dX6_change_5 : decode cX6_change 5 = .ok (.aload_n 1, 1) := by decide +kernel
theorem dX6_change_6 : decode cX6_change 6 = .ok (.arraylength, 1) := by decide +kernel
theorem dX6_change_7 : decode cX6_change 7 = .ok (.istore_n 2, 1) := by decide +kernel
theorem dX6_change_8 : decode cX6_change 8 = .ok (.iconst 0, 1) := by decide +kernel
theorem dX6_change_9 : decode cX6_change 9 = .ok (.istore_n 3, 1) := by decide +kernel
theorem dX6_change_10 : decode cX6_change 10 = .ok (.iload_n 3, 1) := by decide +kernel
theorem dX6_change_11 : decode cX6_change 11 = .ok (.iload_n 2, 1) := by decide +kernel
theorem dX6_change_12 : decode cX6_change 12 = .ok (.if_icmp .ge 37, 3) := by decide +kernel
theorem dX6_change_15 : decode cX6_change 15 = .ok (.aload_n 1, 1) := by decide +kernel
theorem dX6_change_16 : decode cX6_change 16 = .ok (.iload_n 3, 1) := by decide +kernel
theorem dX6_change_17 : decode cX6_change 17 = .ok (.aaload, 1) := by decide +kernel
theorem dX6_change_18 : decode cX6_change 18 = .ok (.astore 4, 2) := by decide +kernel
theorem dX6_change_20 : decode cX6_change 20 = .ok (.aload 4, 2) := by decide +kernel
theorem dX6_change_22 : decode cX6_change 22 = .ok (.iconst 1, 1) := by decide +kernel
theorem dX6_change_23 : decode cX6_change 23 = .ok (.iaload, 1) := by decide +kernel
theorem dX6_change_24 : decode cX6_change 24 = .ok (.ifCond .ne 19, 3) := by decide +kernel
theorem dX6_change_27 : decode cX6_change 27 = .ok (.aload_n 0, 1) := by decide +kernel
theorem dX6_change_28 : decode cX6_change 28 = .ok (.aload 4, 2) := by decide +kernel
theorem dX6_change_30 : decode cX6_change 30 = .ok (.iconst 0, 1) := by decide +kernel
theorem dX6_change_31 : decode cX6_change 31 = .ok (.iaload, 1) := by decide +kernel
theorem dX6_change_32 : decode cX6_change 32 = .ok (.invokevirtual 87, 3) := by decide +kernel
theorem dX6_change_35 : decode cX6_change 35 = .ok (.ifCond .eq 8, 3) := by decide +kernel
theorem dX6_change_38 : decode cX6_change 38 = .ok (.aload 4, 2) := by decide +kernel
theorem dX6_change_40 : decode cX6_change 40 = .ok (.iconst 1, 1) := by decide +kernel
theorem dX6_change_41 : decode cX6_change 41 = .ok (.iconst 1, 1) := by decide +kernel
theorem dX6_change_42 : decode cX6_change 42 = .ok (.iastore, 1) := by decide +kernel
theorem dX6_change_43 : decode cX6_change 43 = .ok (.iinc 3 1, 3) := by decide +kernel
theorem dX6_change_46 : decode cX6_change 46 = .ok (.goto (-36), 3) := by decide +kernel
theorem dX6_change_49 : decode cX6_change 49 = .ok (.aload_n 0, 1) := by decide +kernel
theorem dX6_change_50 : decode cX6_change 50 = .ok (.invokevirtual 90, 3) := by decide +kernel
theorem dX6_change_53 : decode cX6_change 53 = .ok (.aload_n 0, 1) := by decide +kernel
theorem dX6_change_54 : decode cX6_change 54 = .ok (.invokevirtual 93, 3) := by decide +kernel
theorem dX6_change_57 : decode cX6_change 57 = .ok (.ireturn, 1) := by decide +kernel
theorem dX6_numberOf_0 : decode cX6_numberOf 0 = .ok (.iconst 0, 1) := by decide +kernel
theorem dX6_numberOf_1 : decode cX6_numberOf 1 = .ok (.istore_n 2, 1) := by decide +kernel
theorem dX6_numberOf_2 : decode cX6_numberOf 2 = .ok (.iload_n 2, 1) := by decide +kernel
theorem dX6_numberOf_3 : decode cX6_numberOf 3 = .ok (.aload_n 0, 1) := by decide +kernel
theorem dX6_numberOf_4 : decode cX6_numberOf 4 = .ok (.getfield 29, 3) := by decide +kernel
theorem dX6_numberOf_7 : decode cX6_numberOf 7 = .ok (.arraylength, 1) := by decide +kernel
theorem dX6_numberOf_8 : decode cX6_numberOf 8 = .ok (.if_icmp .ge 23, 3) := by decide +kernel
theorem dX6_numberOf_11 : decode cX6_numberOf 11 = .ok (.aload_n 0, 1) := by decide +kernel
theorem dX6_numberOf_12 : decode cX6_numberOf 12 = .ok (.getfield 29, 3) := by decide +kernel
theorem dX6_numberOf_15 : decode cX6_numberOf 15 = .ok (.iload_n 2, 1) := by decide +kernel
theorem dX6_numberOf_16 : decode cX6_numberOf 16 = .ok (.aaload, 1) := by decide +kernel
theorem dX6_numberOf_17 : decode cX6_numberOf 17 = .ok (.iconst 0, 1) := by decide +kernel
theorem dX6_numberOf_18 : decode cX6_numberOf 18 = .ok (.iaload, 1) := by decide +kernel
theorem dX6_numberOf_19 : decode cX6_numberOf 19 = .ok (.iload_n 1, 1) := by decide +kernel
theorem dX6_numberOf_20 : decode cX6_numberOf 20 = .ok (.if_icmp .ne 5, 3) := by decide +kernel
theorem dX6_numberOf_23 : decode cX6_numberOf 23 = .ok (.iload_n 2, 1) := by decide +kernel
theorem dX6_numberOf_24 : decode cX6_numberOf 24 = .ok (.ireturn, 1) := by decide +kernel
theorem dX6_numberOf_25 : decode cX6_numberOf 25 = .ok (.iinc 2 1, 3) := by decide +kernel
theorem dX6_numberOf_28 : decode cX6_numberOf 28 = .ok (.goto (-26), 3) := by decide +kernel
theorem dX6_numberOf_31 : decode cX6_numberOf 31 = .ok (.iconst (-1), 1) := by decide +kernel
theorem dX6_numberOf_32 : decode cX6_numberOf 32 = .ok (.ireturn, 1) := by decide +kernel
set_option maxRecDepth 20000 in
theorem ggX6_taste_X6_numberOf : GoodIn wsX6_taste wsX6_numberOf := goodIn_r _ [7, 2, 55, 56, 57, 58, 59, 60, 61, 62] (by decide +kernel) (by decide +kernel)
set_option maxRecDepth 20000 in
theorem gX6_taste_X6_numberOf : GoodIn wsX6_taste (wsV RX6 97 RX6 yX6_numberOf wsX6_numberOf) := goodIn_app (goodIn_of _ (by decide +kernel)) ggX6_taste_X6_numberOf
set_option maxRecDepth 20000 in
theorem ggX6_taste_X6_isNeeded : GoodIn wsX6_taste wsX6_isNeeded := goodIn_r _ [11, 12, 13, 14, 6, 15, 2, 16, 17, 18, 19, 20, 21, 22, 23, 24, 1, 25, 26, 27, 28, 29, 30, 31, 32, 33, 34, 35, 36, 37, 38, 39, 40, 41, 42, 43, 44, 45, 46, 55, 56, 57, 58, 59, 60, 61, 62] (by decide +kernel) (by decide +kernel)
set_option maxRecDepth 20000 in
theorem gX6_taste_X6_isNeeded : GoodIn wsX6_taste (wsV RX6 87 RX6 yX6_isNeeded wsX6_isNeeded) := goodIn_app (goodIn_of _ (by decide +kernel)) ggX6_taste_X6_isNeeded
set_option maxRecDepth 20000 in
theorem ggX6_taste_X6_with : GoodIn wsX6_taste wsX6_with := goodIn_r _ [49, 50, 32, 33, 34, 35] (by decide +kernel) (by decide +kernel)
set_option maxRecDepth 20000 in
theorem gX6_taste_X6_with : GoodIn wsX6_taste (va_wsS RX6 100 yX6_with wsX6_with) := goodIn_app (goodIn_of _ (by decide +kernel)) ggX6_taste_X6_with
set_option maxRecDepth 20000 in
theorem ggX6_taste_X6_drop : GoodIn wsX6_taste wsX6_drop := goodIn_r _ [54, 2, 8, 9, 10, 6, 11, 12, 13, 14, 15, 16, 17, 18, 19, 20, 21, 22, 23, 24, 1, 25, 26, 27, 28, 29, 30, 31, 32, 33, 34, 35, 36, 37, 38, 39, 40, 41, 42, 43, 44, 45, 46, 55, 56, 57, 58, 59, 60, 61, 62] (by decide +kernel) (by decide +kernel)
set_option maxRecDepth 20000 in
theorem gX6_taste_X6_drop : GoodIn wsX6_taste (wsV RX6 90 RX6 yX6_drop wsX6_drop) := goodIn_app (goodIn_of _ (by decide +kernel)) ggX6_taste_X6_drop
theorem dX6_taste_0 : decode cX6_taste 0 = .ok (.aload_n 0, 1) := by decide +kernel
theorem dX6_taste_1 : decode cX6_taste 1 = .ok (.iload_n 1, 1) := by decide +kernel
theorem dX6_taste_2 : decode cX6_taste 2 = .ok (.invokevirtual 97, 3) := by decide +kernel
theorem dX6_taste_5 : decode cX6_taste 5 = .ok (.ifCond .lt 9, 3) := by decide +kernel
theorem dX6_taste_8 : decode cX6_taste 8 = .ok (.aload_n 0, 1) := by decide +kernel
theorem dX6_taste_9 : decode cX6_taste 9 = .ok (.iload_n 1, 1) := by decide +kernel
theorem dX6_taste_10 : decode cX6_taste 10 = .ok (.invokevirtual 97, 3) := by decide +kernel
theorem dX6_taste_13 : decode cX6_taste 13 = .ok (.ireturn, 1) := by decide +kernel
theorem dX6_taste_14 : decode cX6_taste 14 = .ok (.aload_n 0, 1) := by decide +kernel
theorem dX6_taste_15 : decode cX6_taste 15 = .ok (.iload_n 1, 1) := by decide +kernel
theorem dX6_taste_16 : decode cX6_taste 16 = .ok (.invokevirtual 87, 3) := by decide +kernel
theorem dX6_taste_19 : decode cX6_taste 19 = .ok (.ifCond .ne 5, 3) := by decide +kernel
theorem dX6_taste_22 : decode cX6_taste 22 = .ok (.iconst (-1), 1) := by decide +kernel
theorem dX6_taste_23 : decode cX6_taste 23 = .ok (.ireturn, 1) := by decide +kernel
theorem dX6_taste_24 : decode cX6_taste 24 = .ok (.iconst 3, 1) := by decide +kernel
theorem dX6_taste_25 : decode cX6_taste 25 = .ok (.newarray .int, 2) := by decide +kernel
theorem dX6_taste_27 : decode cX6_taste 27 = .ok (.dup, 1) := by decide +kernel
theorem dX6_taste_28 : decode cX6_taste 28 = .ok (.iconst 0, 1) := by decide +kernel
theorem dX6_taste_29 : decode cX6_taste 29 = .ok (.iload_n 1, 1) := by decide +kernel
theorem dX6_taste_30 : decode cX6_taste 30 = .ok (.iastore, 1) := by decide +kernel
theorem dX6_taste_31 : decode cX6_taste 31 = .ok (.dup, 1) := by decide +kernel
theorem dX6_taste_32 : decode cX6_taste 32 = .ok (.iconst 1, 1) := by decide +kernel
theorem dX6_taste_33 : decode cX6_taste 33 = .ok (.iconst 1, 1) := by decide +kernel
theorem dX6_taste_34 : decode cX6_taste 34 = .ok (.iastore, 1) := by decide +kernel
theorem dX6_taste_35 : decode cX6_taste 35 = .ok (.dup, 1) := by decide +kernel
theorem dX6_taste_36 : decode cX6_taste 36 = .ok (.iconst 2, 1) := by decide +kernel
theorem dX6_taste_37 : decode cX6_taste 37 = .ok (.iconst 0, 1) := by decide +kernel
theorem dX6_taste_38 : decode cX6_taste 38 = .ok (.iastore, 1) := by decide +kernel
theorem dX6_taste_39 : decode cX6_taste 39 = .ok (.astore_n 2, 1) := by decide +kernel
theorem dX6_taste_40 : decode cX6_taste 40 = .ok (.aload_n 0, 1) := by decide +kernel
theorem dX6_taste_41 : decode cX6_taste 41 = .ok (.aload_n 0, 1) := by decide +kernel
theorem dX6_taste_42 : decode cX6_taste 42 = .ok (.getfield 29, 3) := by decide +kernel
theorem dX6_taste_45 : decode cX6_taste 45 = .ok (.aload_n 2, 1) := by decide +kernel
theorem dX6_taste_46 : decode cX6_taste 46 = .ok (.invokestatic 100, 3) := by decide +kernel
theorem dX6_taste_49 : decode cX6_taste 49 = .ok (.putfield 29, 3) := by decide +kernel
theorem dX6_taste_52 : decode cX6_taste 52 = .ok (.aload_n 0, 1) := by decide +kernel
theorem dX6_taste_53 : decode cX6_taste 53 = .ok (.invokevirtual 90, 3) := by decide +kernel
theorem dX6_taste_56 : decode cX6_taste 56 = .ok (.aload_n 0, 1) := by decide +kernel
theorem dX6_taste_57 : decode cX6_taste 57 = .ok (.getfield 29, 3) := by decide +kernel
theorem dX6_taste_60 : decode cX6_taste 60 = .ok (.arraylength, 1) := by decide +kernel
theorem dX6_taste_61 : decode cX6_taste 61 = .ok (.iconst 1, 1) := by decide +kernel
theorem dX6_taste_62 : decode cX6_taste 62 = .ok (.isub, 1) := by decide +kernel
theorem dX6_taste_63 : decode cX6_taste 63 = .ok (.ireturn, 1) := by decide +kernel
set_option maxRecDepth 20000 in
theorem ggX6_energy_X6_alone : GoodIn wsX6_energy wsX6_alone := goodIn_r _ [10, 1, 11, 12, 13, 9, 14, 15, 16, 17, 18, 19, 20, 21, 22, 23, 24, 25, 26, 27, 28, 29, 30, 31, 32, 33, 34, 43, 44, 45, 46, 47, 48, 49, 50] (by decide +kernel) (by decide +kernel)
set_option maxRecDepth 20000 in
theorem gX6_energy_X6_alone : GoodIn wsX6_energy (wsV RX6 80 RX6 yX6_alone wsX6_alone) := goodIn_app (goodIn_of _ (by decide +kernel)) ggX6_energy_X6_alone
set_option maxRecDepth 20000 in
theorem ggX6_energy_X6_isOnlyFailure : GoodIn wsX6_energy wsX6_isOnlyFailure := goodIn_r _ [38, 1, 39, 40, 41, 9, 42, 16, 17, 18, 19, 20, 21, 22, 23, 24, 25, 26, 27, 28, 29, 30, 31, 43, 44, 45, 46, 47, 48, 49, 50] (by decide +kernel) (by decide +kernel)
set_option maxRecDepth 20000 in
theorem gX6_energy_X6_isOnlyFailure : GoodIn wsX6_energy (wsV RX6 83 RX6 yX6_isOnlyFailure wsX6_isOnlyFailure) := goodIn_app (goodIn_of _ (by decide +kernel)) ggX6_energy_X6_isOnlyFailure
theorem dX6_energy_0 : decode cX6_energy 0 = .ok (.aload_n 0, 1) := by decide +kernel
theorem dX6_energy_1 : decode cX6_energy 1 = .ok (.getfield 29, 3) := by decide +kernel
theorem dX6_energy_4 : decode cX6_energy 4 = .ok (.iload_n 1, 1) := by decide +kernel
theorem dX6_energy_5 : decode cX6_energy 5 = .ok (.aaload, 1) := by decide +kernel
theorem dX6_energy_6 : decode cX6_energy 6 = .ok (.iconst 1, 1) := by decide +kernel
theorem dX6_energy_7 : decode cX6_energy 7 = .ok (.iaload, 1) := by decide +kernel
theorem dX6_energy_8 : decode cX6_energy 8 = .ok (.ifCond .ne 5, 3) := by decide +kernel
theorem dX6_energy_11 : decode cX6_energy 11 = .ok (.iconst 0, 1) := by decide +kernel
theorem dX6_energy_12 : decode cX6_energy 12 = .ok (.ireturn, 1) := by decide +kernel
theorem dX6_energy_13 : decode cX6_energy 13 = .ok (.iconst 0, 1) := by decide +kernel
theorem dX6_energy_14 : decode cX6_energy 14 = .ok (.iconst 1, 1) := by decide +kernel
theorem dX6_energy_15 : decode cX6_energy 15 = .ok (.iconst 3, 1) := by decide +kernel
theorem dX6_energy_16 : decode cX6_energy 16 = .ok (.aload_n 0, 1) := by decide +kernel
theorem dX6_energy_17 : decode cX6_energy 17 = .ok (.aload_n 0, 1) := by decide +kernel
theorem dX6_energy_18 : decode cX6_energy 18 = .ok (.getfield 29, 3) := by decide +kernel
theorem dX6_energy_21 : decode cX6_energy 21 = .ok (.iload_n 1, 1) := by decide +kernel
theorem dX6_energy_22 : decode cX6_energy 22 = .ok (.aaload, 1) := by decide +kernel
theorem dX6_energy_23 : decode cX6_energy 23 = .ok (.iconst 0, 1) := by decide +kernel
theorem dX6_energy_24 : decode cX6_energy 24 = .ok (.iaload, 1) := by decide +kernel
theorem dX6_energy_25 : decode cX6_energy 25 = .ok (.invokevirtual 80, 3) := by decide +kernel
theorem dX6_energy_28 : decode cX6_energy 28 = .ok (.imul, 1) := by decide +kernel
theorem dX6_energy_29 : decode cX6_energy 29 = .ok (.iadd, 1) := by decide +kernel
theorem dX6_energy_30 : decode cX6_energy 30 = .ok (.aload_n 0, 1) := by decide +kernel
theorem dX6_energy_31 : decode cX6_energy 31 = .ok (.aload_n 0, 1) := by decide +kernel
theorem dX6_energy_32 : decode cX6_energy 32 = .ok (.getfield 29, 3) := by decide +kernel
theorem dX6_energy_35 : decode cX6_energy 35 = .ok (.iload_n 1, 1) := by decide +kernel
theorem dX6_energy_36 : decode cX6_energy 36 = .ok (.aaload, 1) := by decide +kernel
theorem dX6_energy_37 : decode cX6_energy 37 = .ok (.iconst 0, 1) := by decide +kernel
theorem dX6_energy_38 : decode cX6_energy 38 = .ok (.iaload, 1) := by decide +kernel
theorem dX6_energy_39 : decode cX6_energy 39 = .ok (.invokevirtual 83, 3) := by decide +kernel
theorem dX6_energy_42 : decode cX6_energy 42 = .ok (.ifCond .eq 7, 3) := by decide +kernel
theorem dX6_energy_45 : decode cX6_energy 45 = .ok (.iconst 5, 1) := by decide +kernel
theorem dX6_energy_46 : decode cX6_energy 46 = .ok (.goto 4, 3) := by decide +kernel
theorem dX6_energy_49 : decode cX6_energy 49 = .ok (.iconst 0, 1) := by decide +kernel
theorem dX6_energy_50 : decode cX6_energy 50 = .ok (.iadd, 1) := by decide +kernel
theorem dX6_energy_51 : decode cX6_energy 51 = .ok (.aload_n 0, 1) := by decide +kernel
theorem dX6_energy_52 : decode cX6_energy 52 = .ok (.getfield 29, 3) := by decide +kernel
theorem dX6_energy_55 : decode cX6_energy 55 = .ok (.iload_n 1, 1) := by decide +kernel
theorem dX6_energy_56 : decode cX6_energy 56 = .ok (.aaload, 1) := by decide +kernel
theorem dX6_energy_57 : decode cX6_energy 57 = .ok (.iconst 2, 1) := by decide +kernel
theorem dX6_energy_58 : decode cX6_energy 58 = .ok (.iaload, 1) := by decide +kernel
theorem dX6_energy_59 : decode cX6_energy 59 = .ok (.isub, 1) := by decide +kernel
theorem dX6_energy_60 : decode cX6_energy 60 = .ok (.invokestatic 104, 3) := by decide +kernel
theorem dX6_energy_63 : decode cX6_energy 63 = .ok (.ireturn, 1) := by decide +kernel
theorem dX6_drawn_0 : decode cX6_drawn 0 = .ok (.aload_n 0, 1) := by decide +kernel
theorem dX6_drawn_1 : decode cX6_drawn 1 = .ok (.sipush 421, 3) := by decide +kernel
theorem dX6_drawn_4 : decode cX6_drawn 4 = .ok (.aload_n 0, 1) := by decide +kernel
theorem dX6_drawn_5 : decode cX6_drawn 5 = .ok (.getfield 25, 3) := by decide +kernel
theorem dX6_drawn_8 : decode cX6_drawn 8 = .ok (.imul, 1) := by decide +kernel
theorem dX6_drawn_9 : decode cX6_drawn 9 = .ok (.sipush 1663, 3) := by decide +kernel
theorem dX6_drawn_12 : decode cX6_drawn 12 = .ok (.iadd, 1) := by decide +kernel
theorem dX6_drawn_13 : decode cX6_drawn 13 = .ok (.sipush 10000, 3) := by decide +kernel
theorem dX6_drawn_16 : decode cX6_drawn 16 = .ok (.irem, 1) := by decide +kernel
theorem dX6_drawn_17 : decode cX6_drawn 17 = .ok (.putfield 25, 3) := by decide +kernel
theorem dX6_drawn_20 : decode cX6_drawn 20 = .ok (.aload_n 0, 1) := by decide +kernel
theorem dX6_drawn_21 : decode cX6_drawn 21 = .ok (.getfield 25, 3) := by decide +kernel
theorem dX6_drawn_24 : decode cX6_drawn 24 = .ok (.bipush 100, 2) := by decide +kernel
theorem dX6_drawn_26 : decode cX6_drawn 26 = .ok (.idiv, 1) := by decide +kernel
theorem dX6_drawn_27 : decode cX6_drawn 27 = .ok (.iload_n 1, 1) := by decide +kernel
theorem dX6_drawn_28 : decode cX6_drawn 28 = .ok (.irem, 1) := by decide +kernel
theorem dX6_drawn_29 : decode cX6_drawn 29 = .ok (.ireturn, 1) := by decide +kernel
set_option maxRecDepth 20000 in
theorem ggX6_make_X6_drawn : GoodIn wsX6_make wsX6_drawn := goodIn_r _ [7, 8, 12, 13, 14, 15, 16, 17, 18, 19] (by decide +kernel) (by decide +kernel)
set_option maxRecDepth 20000 in
theorem gX6_make_X6_drawn : GoodIn wsX6_make (wsV RX6 109 RX6 yX6_drawn wsX6_drawn) := goodIn_app (goodIn_of _ (by decide +kernel)) ggX6_make_X6_drawn
set_option maxRecDepth 20000 in
theorem ggX6_make_X6_tell : GoodIn wsX6_make wsX6_tell := goodIn_r _ [11] (by decide +kernel) (by decide +kernel)
set_option maxRecDepth 20000 in
theorem gX6_make_X6_tell : GoodIn wsX6_make (va_wsS RX6 112 yX6_tell wsX6_tell) := goodIn_app (goodIn_of _ (by decide +kernel)) ggX6_make_X6_tell
theorem dX6_make_0 : decode cX6_make 0 = .ok (.iconst 4, 1) := by decide +kernel
theorem dX6_make_1 : decode cX6_make 1 = .ok (.newarray .int, 2) := by decide +kernel
theorem dX6_make_3 : decode cX6_make 3 = .ok (.astore_n 1, 1) := by decide +kernel
theorem dX6_make_4 : decode cX6_make 4 = .ok (.iconst 0, 1) := by decide +kernel
theorem dX6_make_5 : decode cX6_make 5 = .ok (.istore_n 2, 1) := by decide +kernel
theorem dX6_make_6 : decode cX6_make 6 = .ok (.iload_n 2, 1) := by decide +kernel
theorem dX6_make_7 : decode cX6_make 7 = .ok (.iconst 4, 1) := by decide +kernel
theorem dX6_make_8 : decode cX6_make 8 = .ok (.if_icmp .ge 127, 3) := by decide +kernel
theorem dX6_make_11 : decode cX6_make 11 = .ok (.aload_n 0, 1) := by decide +kernel
theorem dX6_make_12 : decode cX6_make 12 = .ok (.getfield 22, 3) := by decide +kernel
theorem dX6_make_15 : decode cX6_make 15 = .ok (.iload_n 2, 1) := by decide +kernel
theorem dX6_make_16 : decode cX6_make 16 = .ok (.aaload, 1) := by decide +kernel
theorem dX6_make_17 : decode cX6_make 17 = .ok (.astore_n 3, 1) := by decide +kernel
theorem dX6_make_18 : decode cX6_make 18 = .ok (.aload_n 3, 1) := by decide +kernel
theorem dX6_make_19 : decode cX6_make 19 = .ok (.iconst 0, 1) := by decide +kernel
theorem dX6_make_20 : decode cX6_make 20 = .ok (.iaload, 1) := by decide +kernel
theorem dX6_make_21 : decode cX6_make 21 = .ok (.aload_n 3, 1) := by decide +kernel
theorem dX6_make_22 : decode cX6_make 22 = .ok (.iconst 1, 1) := by decide +kernel
theorem dX6_make_23 : decode cX6_make 23 = .ok (.iaload, 1) := by decide +kernel
theorem dX6_make_24 : decode cX6_make 24 = .ok (.iadd, 1) := by decide +kernel
theorem dX6_make_25 : decode cX6_make 25 = .ok (.aload_n 3, 1) := by decide +kernel
theorem dX6_make_26 : decode cX6_make 26 = .ok (.iconst 2, 1) := by decide +kernel
theorem dX6_make_27 : decode cX6_make 27 = .ok (.iaload, 1) := by decide +kernel
theorem dX6_make_28 : decode cX6_make 28 = .ok (.iadd, 1) := by decide +kernel
theorem dX6_make_29 : decode cX6_make 29 = .ok (.ifCond .ne 6, 3) := by decide +kernel
theorem dX6_make_32 : decode cX6_make 32 = .ok (.goto 97, 3) := by decide +kernel
theorem dX6_make_35 : decode cX6_make 35 = .ok (.aload_n 0, 1) := by decide +kernel
theorem dX6_make_36 : decode cX6_make 36 = .ok (.aload_n 3, 1) := by decide +kernel
theorem dX6_make_37 : decode cX6_make 37 = .ok (.iconst 0, 1) := by decide +kernel
theorem dX6_make_38 : decode cX6_make 38 = .ok (.iaload, 1) := by decide +kernel
theorem dX6_make_39 : decode cX6_make 39 = .ok (.aload_n 3, 1) := by decide +kernel
theorem dX6_make_40 : decode cX6_make 40 = .ok (.iconst 1, 1) := by decide +kernel
theorem dX6_make_41 : decode cX6_make 41 = .ok (.iaload, 1) := by decide +kernel
theorem dX6_make_42 : decode cX6_make 42 = .ok (.iadd, 1) := by decide +kernel
theorem dX6_make_43 : decode cX6_make 43 = .ok (.aload_n 3, 1) := by decide +kernel
theorem dX6_make_44 : decode cX6_make 44 = .ok (.iconst 2, 1) := by decide +kernel
theorem dX6_make_45 : decode cX6_make 45 = .ok (.iaload, 1) := by decide +kernel
theorem dX6_make_46 : decode cX6_make 46 = .ok (.iadd, 1) := by decide +kernel
theorem dX6_make_47 : decode cX6_make 47 = .ok (.invokevirtual 109, 3) := by decide +kernel
theorem dX6_make_50 : decode cX6_make 50 = .ok (.istore 4, 2) := by decide +kernel
theorem dX6_make_52 : decode cX6_make 52 = .ok (.iload 4, 2) := by decide +kernel
theorem dX6_make_54 : decode cX6_make 54 = .ok (.aload_n 3, 1) := by decide +kernel
theorem dX6_make_55 : decode cX6_make 55 = .ok (.iconst 0, 1) := by decide +kernel
theorem dX6_make_56 : decode cX6_make 56 = .ok (.iaload, 1) := by decide +kernel
theorem dX6_make_57 : decode cX6_make 57 = .ok (.if_icmp .ge 7, 3) := by decide +kernel
theorem dX6_make_60 : decode cX6_make 60 = .ok (.iconst 1, 1) := by decide +kernel
theorem dX6_make_61 : decode cX6_make 61 = .ok (.goto 4, 3) := by decide +kernel
theorem dX6_make_64 : decode cX6_make 64 = .ok (.iconst 0, 1) := by decide +kernel
theorem dX6_make_65 : decode cX6_make 65 = .ok (.istore 5, 2) := by decide +kernel
theorem dX6_make_67 : decode cX6_make 67 = .ok (.iload 4, 2) := by decide +kernel
theorem dX6_make_69 : decode cX6_make 69 = .ok (.aload_n 3, 1) := by decide +kernel
theorem dX6_make_70 : decode cX6_make 70 = .ok (.iconst 0, 1) := by decide +kernel
theorem dX6_make_71 : decode cX6_make 71 = .ok (.iaload, 1) := by decide +kernel
theorem dX6_make_72 : decode cX6_make 72 = .ok (.aload_n 3, 1) := by decide +kernel
theorem dX6_make_73 : decode cX6_make 73 = .ok (.iconst 1, 1) := by decide +kernel
theorem dX6_make_74 : decode cX6_make 74 = .ok (.iaload, 1) := by decide +kernel
theorem dX6_make_75 : decode cX6_make 75 = .ok (.iadd, 1) := by decide +kernel
theorem dX6_make_76 : decode cX6_make 76 = .ok (.if_icmp .lt 7, 3) := by decide +kernel
theorem dX6_make_79 : decode cX6_make 79 = .ok (.iconst 1, 1) := by decide +kernel
theorem dX6_make_80 : decode cX6_make 80 = .ok (.goto 4, 3) := by decide +kernel
theorem dX6_make_83 : decode cX6_make 83 = .ok (.iconst 0, 1) := by decide +kernel
theorem dX6_make_84 : decode cX6_make 84 = .ok (.istore 6, 2) := by decide +kernel
theorem dX6_make_86 : decode cX6_make 86 = .ok (.aload_n 1, 1) := by decide +kernel
theorem dX6_make_87 : decode cX6_make 87 = .ok (.iload_n 2, 1) := by decide +kernel
theorem dX6_make_88 : decode cX6_make 88 = .ok (.iload 5, 2) := by decide +kernel
theorem dX6_make_90 : decode cX6_make 90 = .ok (.ifCond .eq 7, 3) := by decide +kernel
theorem dX6_make_93 : decode cX6_make 93 = .ok (.iconst 0, 1) := by decide +kernel
theorem dX6_make_94 : decode cX6_make 94 = .ok (.goto 14, 3) := by decide +kernel
theorem dX6_make_97 : decode cX6_make 97 = .ok (.iload 6, 2) := by decide +kernel
theorem dX6_make_99 : decode cX6_make 99 = .ok (.ifCond .eq 8, 3) := by decide +kernel
theorem dX6_make_102 : decode cX6_make 102 = .ok (.bipush 7, 2) := by decide +kernel
theorem dX6_make_104 : decode cX6_make 104 = .ok (.goto 4, 3) := by decide +kernel
theorem dX6_make_107 : decode cX6_make 107 = .ok (.iconst 3, 1) := by decide +kernel
theorem dX6_make_108 : decode cX6_make 108 = .ok (.aload_n 0, 1) := by decide +kernel
theorem dX6_make_109 : decode cX6_make 109 = .ok (.iload 5, 2) := by decide +kernel
theorem dX6_make_111 : decode cX6_make 111 = .ok (.ifCond .ne 8, 3) := by decide +kernel
theorem dX6_make_114 : decode cX6_make 114 = .ok (.iload 6, 2) := by decide +kernel
theorem dX6_make_116 : decode cX6_make 116 = .ok (.ifCond .eq 7, 3) := by decide +kernel
theorem dX6_make_119 : decode cX6_make 119 = .ok (.iconst 3, 1) := by decide +kernel
theorem dX6_make_120 : decode cX6_make 120 = .ok (.goto 4, 3) := by decide +kernel
theorem dX6_make_123 : decode cX6_make 123 = .ok (.iconst 4, 1) := by decide +kernel
theorem dX6_make_124 : decode cX6_make 124 = .ok (.invokevirtual 109, 3) := by decide +kernel
theorem dX6_make_127 : decode cX6_make 127 = .ok (.iadd, 1) := by decide +kernel
theorem dX6_make_128 : decode cX6_make 128 = .ok (.iastore, 1) := by decide +kernel
theorem dX6_make_129 : decode cX6_make 129 = .ok (.iinc 2 1, 3) := by decide +kernel
theorem dX6_make_132 : decode cX6_make 132 = .ok (.goto (-126), 3) := by decide +kernel
theorem dX6_make_135 : decode cX6_make 135 = .ok (.aload_n 1, 1) := by decide +kernel
theorem dX6_make_136 : decode cX6_make 136 = .ok (.invokestatic 112, 3) := by decide +kernel
theorem dX6_make_139 : decode cX6_make 139 = .ok (.ireturn, 1) := by decide +kernel
set_option maxRecDepth 20000 in
theorem ggX6_generate_X6_make : GoodIn wsX6_generate wsX6_make := goodIn_r _ [7, 8, 9, 10, 11, 12, 6, 13, 14, 15, 16, 17, 190, 191, 192, 193, 194, 195, 196, 197] (by decide +kernel) (by decide +kernel)
set_option maxRecDepth 20000 in
theorem gX6_generate_X6_make : GoodIn wsX6_generate (wsV RX6 116 RX6 yX6_make wsX6_make) := goodIn_app (goodIn_of _ (by decide +kernel)) ggX6_generate_X6_make
set_option maxRecDepth 20000 in
theorem ggX6_generate_X6_taste : GoodIn wsX6_generate wsX6_taste := goodIn_r _ [21, 8, 1, 22, 23, 24, 6, 25, 26, 27, 28, 29, 30, 31, 32, 33, 34, 35, 36, 37, 38, 39, 40, 41, 42, 43, 44, 45, 46, 47, 48, 49, 50, 51, 52, 53, 54, 55, 56, 57, 58, 59, 60, 61, 62, 63, 64, 65, 66, 67, 68, 69, 70, 71, 72, 190, 191, 192, 193, 194, 195, 196, 197] (by decide +kernel) (by decide +kernel)
set_option maxRecDepth 20000 in
theorem gX6_generate_X6_taste : GoodIn wsX6_generate (wsV RX6 119 RX6 yX6_taste wsX6_taste) := goodIn_app (goodIn_of _ (by decide +kernel)) ggX6_generate_X6_taste
set_option maxRecDepth 20000 in
theorem ggX6_generate_X5_generate : GoodIn wsX6_generate wsX5_generate := goodIn_ca (goodIn_r _ [77, 78, 79, 80, 81, 76, 82, 83, 84, 85, 86, 87, 88, 89, 90, 91, 92, 93, 94, 95, 96, 97, 98, 99, 100, 101, 102, 103, 104, 105, 106, 107, 108, 109, 110, 111, 112, 113, 114, 115, 116, 117, 118, 119, 120, 121, 122, 123, 124, 125, 126, 127, 128, 129, 130, 131, 132, 133, 134, 135, 136, 137, 138, 139, 140, 141, 142, 143, 144, 145, 146, 147, 148, 149, 150, 151, 152, 153, 154, 155, 156, 157, 158, 159, 160, 161, 162, 163, 164, 165, 166, 167, 168, 169, 170, 171, 172, 173, 174, 175, 176, 177, 178, 179, 180, 181, 182, 183, 184, 185, 186, 187, 188, 189, 198, 199, 200, 201, 202, 203, 204, 205, 206, 207, 208, 209, 210, 211, 212, 213, 214, 215, 216, 217, 218, 219, 220, 221] (by decide +kernel) (by decide +kernel)) (goodIn_sub (fun _ h => List.mem_cons_of_mem _ (List.mem_append_right _ h)) (by decide +kernel))
set_option maxRecDepth 20000 in
theorem gX6_generate_X5_generate : GoodIn wsX6_generate (wsV RX6 122 RX5 yX5_generate wsX5_generate) := goodIn_app (goodIn_of _ (by decide +kernel)) ggX6_generate_X5_generate
theorem dX6_generate_0 : decode cX6_generate 0 = .ok (.aload_n 0, 1) := by decide +kernel
theorem dX6_generate_1 : decode cX6_generate 1 = .ok (.getfield 29, 3) := by decide +kernel
theorem dX6_generate_4 : decode cX6_generate 4 = .ok (.arraylength, 1) := by decide +kernel
theorem dX6_generate_5 : decode cX6_generate 5 = .ok (.bipush 40, 2) := by decide +kernel
theorem dX6_generate_7 : decode cX6_generate 7 = .ok (.if_icmp .ne 5, 3) := by decide +kernel
theorem dX6_generate_10 : decode cX6_generate 10 = .ok (.iconst 1, 1) := by decide +kernel
theorem dX6_generate_11 : decode cX6_generate 11 = .ok (.ireturn, 1) := by decide +kernel
theorem dX6_generate_12 : decode cX6_generate 12 = .ok (.aload_n 0, 1) := by decide +kernel
theorem dX6_generate_13 : decode cX6_generate 13 = .ok (.invokevirtual 116, 3) := by decide +kernel
theorem dX6_generate_16 : decode cX6_generate 16 = .ok (.istore_n 1, 1) := by decide +kernel
theorem dX6_generate_17 : decode cX6_generate 17 = .ok (.aload_n 0, 1) := by decide +kernel
theorem dX6_generate_18 : decode cX6_generate 18 = .ok (.iload_n 1, 1) := by decide +kernel
theorem dX6_generate_19 : decode cX6_generate 19 = .ok (.invokevirtual 119, 3) := by decide +kernel
theorem dX6_generate_22 : decode cX6_generate 22 = .ok (.pop, 1) := by decide +kernel
theorem dX6_generate_23 : decode cX6_generate 23 = .ok (.aload_n 0, 1) := by decide +kernel
theorem dX6_generate_24 : decode cX6_generate 24 = .ok (.getfield 10, 3) := by decide +kernel
theorem dX6_generate_27 : decode cX6_generate 27 = .ok (.invokevirtual 122, 3) := by decide +kernel
theorem dX6_generate_30 : decode cX6_generate 30 = .ok (.iload_n 1, 1) := by decide +kernel
theorem dX6_generate_31 : decode cX6_generate 31 = .ok (.if_icmp .ne 7, 3) := by decide +kernel
theorem dX6_generate_34 : decode cX6_generate 34 = .ok (.iconst 1, 1) := by decide +kernel
theorem dX6_generate_35 : decode cX6_generate 35 = .ok (.goto 4, 3) := by decide +kernel
theorem dX6_generate_38 : decode cX6_generate 38 = .ok (.iconst 0, 1) := by decide +kernel
theorem dX6_generate_39 : decode cX6_generate 39 = .ok (.ireturn, 1) := by decide +kernel
set_option maxRecDepth 20000 in
theorem ggX6_mutate_X6_kept : GoodIn wsX6_mutate wsX6_kept := goodIn_r _ [7, 1, 216, 217, 218, 219, 220, 221, 222, 223] (by decide +kernel) (by decide +kernel)
set_option maxRecDepth 20000 in
theorem gX6_mutate_X6_kept : GoodIn wsX6_mutate (wsV RX6 93 RX6 yX6_kept wsX6_kept) := goodIn_app (goodIn_of _ (by decide +kernel)) ggX6_mutate_X6_kept
set_option maxRecDepth 20000 in
theorem ggX6_mutate_X6_energy : GoodIn wsX6_mutate wsX6_energy := goodIn_r _ [11, 1, 12, 13, 14, 15, 16, 17, 18, 6, 19, 20, 21, 22, 23, 24, 25, 26, 27, 28, 29, 30, 31, 32, 33, 34, 35, 36, 37, 38, 39, 40, 41, 42, 43, 44, 45, 46, 47, 48, 49, 50, 51, 216, 217, 218, 219, 220, 221, 222, 223] (by decide +kernel) (by decide +kernel)
set_option maxRecDepth 20000 in
theorem gX6_mutate_X6_energy : GoodIn wsX6_mutate (wsV RX6 125 RX6 yX6_energy wsX6_energy) := goodIn_app (goodIn_of _ (by decide +kernel)) ggX6_mutate_X6_energy
set_option maxRecDepth 20000 in
theorem ggX6_mutate_X6_slots : GoodIn wsX6_mutate wsX6_slots := goodIn_r _ [33, 29] (by decide +kernel) (by decide +kernel)
set_option maxRecDepth 20000 in
theorem gX6_mutate_X6_slots : GoodIn wsX6_mutate (va_wsS RX6 57 yX6_slots wsX6_slots) := goodIn_app (goodIn_of _ (by decide +kernel)) ggX6_mutate_X6_slots
set_option maxRecDepth 20000 in
theorem ggX6_mutate_X6_drawn : GoodIn wsX6_mutate wsX6_drawn := goodIn_r _ [55, 56, 216, 217, 218, 219, 220, 221, 222, 223] (by decide +kernel) (by decide +kernel)
set_option maxRecDepth 20000 in
theorem gX6_mutate_X6_drawn : GoodIn wsX6_mutate (wsV RX6 109 RX6 yX6_drawn wsX6_drawn) := goodIn_app (goodIn_of _ (by decide +kernel)) ggX6_mutate_X6_drawn
set_option maxRecDepth 20000 in
theorem ggX6_mutate_X6_tell : GoodIn wsX6_mutate wsX6_tell := goodIn_r _ [59] (by decide +kernel) (by decide +kernel)
set_option maxRecDepth 20000 in
theorem gX6_mutate_X6_tell : GoodIn wsX6_mutate (va_wsS RX6 112 yX6_tell wsX6_tell) := goodIn_app (goodIn_of _ (by decide +kernel)) ggX6_mutate_X6_tell
set_option maxRecDepth 20000 in
theorem ggX6_mutate_X6_taste : GoodIn wsX6_mutate wsX6_taste := goodIn_r _ [63, 29, 1, 64, 65, 66, 6, 67, 68, 69, 70, 71, 16, 17, 18, 19, 20, 21, 22, 23, 24, 25, 26, 27, 28, 30, 31, 32, 33, 34, 35, 36, 37, 38, 39, 40, 41, 42, 43, 44, 45, 46, 47, 48, 49, 50, 51, 72, 73, 74, 75, 76, 77, 78, 79, 216, 217, 218, 219, 220, 221, 222, 223] (by decide +kernel) (by decide +kernel)
set_option maxRecDepth 20000 in
theorem gX6_mutate_X6_taste : GoodIn wsX6_mutate (wsV RX6 119 RX6 yX6_taste wsX6_taste) := goodIn_app (goodIn_of _ (by decide +kernel)) ggX6_mutate_X6_taste
set_option maxRecDepth 20000 in
theorem ggX6_mutate_X5_mutate : GoodIn wsX6_mutate wsX5_mutate := goodIn_ca (goodIn_r _ [84, 85, 86, 87, 88, 89, 90, 91, 92, 93, 94, 95, 96, 97, 98, 99, 100, 83, 101, 102, 103, 104, 105, 106, 107, 13, 14, 15, 108, 109, 110, 111, 112, 113, 114, 115, 116, 117, 118, 119, 120, 121, 122, 123, 124, 125, 126, 127, 128, 129, 130, 131, 132, 133, 134, 135, 136, 137, 138, 139, 140, 141, 142, 143, 144, 145, 146, 147, 148, 149, 150, 151, 152, 153, 154, 155, 156, 157, 158, 159, 160, 161, 162, 163, 164, 165, 166, 167, 168, 169, 170, 171, 172, 173, 174, 175, 176, 177, 178, 179, 180, 181, 182, 183, 184, 185, 186, 187, 188, 189, 190, 191, 192, 193, 194, 195, 196, 197, 198, 199, 200, 201, 202, 203, 204, 205, 206, 207, 208, 209, 210, 211, 212, 213, 214, 215, 224, 225, 226, 227, 228, 229, 230, 231, 232, 233, 234, 235, 236, 237, 238, 239, 240, 241, 242, 243, 244, 245, 246, 247] (by decide +kernel) (by decide +kernel)) (goodIn_sub (fun _ h => List.mem_cons_of_mem _ (List.mem_append_right _ h)) (by decide +kernel))
set_option maxRecDepth 20000 in
theorem gX6_mutate_X5_mutate : GoodIn wsX6_mutate (wsV RX6 128 RX5 yX5_mutate wsX5_mutate) := goodIn_app (goodIn_of _ (by decide +kernel)) ggX6_mutate_X5_mutate
theorem dX6_mutate_0 : decode cX6_mutate 0 = .ok (.aload_n 0, 1) := by decide +kernel
theorem dX6_mutate_1 : decode cX6_mutate 1 = .ok (.getfield 29, 3) := by decide +kernel
theorem dX6_mutate_4 : decode cX6_mutate 4 = .ok (.arraylength, 1) := by decide +kernel
theorem dX6_mutate_5 : decode cX6_mutate 5 = .ok (.bipush 40, 2) := by decide +kernel
theorem dX6_mutate_7 : decode cX6_mutate 7 = .ok (.if_icmp .eq 10, 3) := by decide +kernel
theorem dX6_mutate_10 : decode cX6_mutate 10 = .ok (.aload_n 0, 1) := by decide +kernel
theorem dX6_mutate_11 : decode cX6_mutate 11 = .ok (.invokevirtual 93, 3) := by decide +kernel
theorem dX6_mutate_14 : decode cX6_mutate 14 = .ok (.ifCond .ne 5, 3) := by decide +kernel
theorem dX6_mutate_17 : decode cX6_mutate 17 = .ok (.iconst 1, 1) := by decide +kernel
theorem dX6_mutate_18 : decode cX6_mutate 18 = .ok (.ireturn, 1) := by decide +kernel
theorem dX6_mutate_19 : decode cX6_mutate 19 = .ok (.iconst (-1), 1) := by decide +kernel
theorem dX6_mutate_20 : decode cX6_mutate 20 = .ok (.istore_n 1, 1) := by decide +kernel
theorem dX6_mutate_21 : decode cX6_mutate 21 = .ok (.iconst (-1), 1) := by decide +kernel
theorem dX6_mutate_22 : decode cX6_mutate 22 = .ok (.istore_n 2, 1) := by decide +kernel
theorem dX6_mutate_23 : decode cX6_mutate 23 = .ok (.iconst 0, 1) := by decide +kernel
theorem dX6_mutate_24 : decode cX6_mutate 24 = .ok (.istore_n 3, 1) := by decide +kernel
theorem dX6_mutate_25 : decode cX6_mutate 25 = .ok (.iload_n 3, 1) := by decide +kernel
theorem dX6_mutate_26 : decode cX6_mutate 26 = .ok (.aload_n 0, 1) := by decide +kernel
theorem dX6_mutate_27 : decode cX6_mutate 27 = .ok (.getfield 29, 3) := by decide +kernel
theorem dX6_mutate_30 : decode cX6_mutate 30 = .ok (.arraylength, 1) := by decide +kernel
theorem dX6_mutate_31 : decode cX6_mutate 31 = .ok (.if_icmp .ge 40, 3) := by decide +kernel
theorem dX6_mutate_34 : decode cX6_mutate 34 = .ok (.aload_n 0, 1) := by decide +kernel
