theorem dX6_mutate_35 : decode cX6_mutate 35 = .ok (.getfield 29, 3) := by decide +kernel
theorem dX6_mutate_38 : decode cX6_mutate 38 = .ok (.iload_n 3, 1) := by decide +kernel
theorem dX6_mutate_39 : decode cX6_mutate 39 = .ok (.aaload, 1) := by decide +kernel
theorem dX6_mutate_40 : decode cX6_mutate 40 = .ok (.iconst 1, 1) := by decide +kernel
theorem dX6_mutate_41 : decode cX6_mutate 41 = .ok (.iaload, 1) := by decide +kernel
theorem dX6_mutate_42 : decode cX6_mutate 42 = .ok (.ifCond .eq 23, 3) := by decide +kernel
theorem dX6_mutate_45 : decode cX6_mutate 45 = .ok (.aload_n 0, 1) := by decide +kernel
theorem dX6_mutate_46 : decode cX6_mutate 46 = .ok (.iload_n 3, 1) := by decide +kernel
theorem dX6_mutate_47 : decode cX6_mutate 47 = .ok (.invokevirtual 125, 3) := by decide +kernel
theorem dX6_mutate_50 : decode cX6_mutate 50 = .ok (.iload_n 2, 1) := by decide +kernel
theorem dX6_mutate_51 : decode cX6_mutate 51 = .ok (.if_icmp .gt 6, 3) := by decide +kernel
theorem dX6_mutate_54 : decode cX6_mutate 54 = .ok (.goto 11, 3) := by decide +kernel
theorem dX6_mutate_57 : decode cX6_mutate 57 = .ok (.iload_n 3, 1) := by decide +kernel
theorem dX6_mutate_58 : decode cX6_mutate 58 = .ok (.istore_n 1, 1) := by decide +kernel
theorem dX6_mutate_59 : decode cX6_mutate 59 = .ok (.aload_n 0, 1) := by decide +kernel
theorem dX6_mutate_60 : decode cX6_mutate 60 = .ok (.iload_n 3, 1) := by decide +kernel
theorem dX6_mutate_61 : decode cX6_mutate 61 = .ok (.invokevirtual 125, 3) := by decide +kernel
theorem dX6_mutate_64 : decode cX6_mutate 64 = .ok (.istore_n 2, 1) := by decide +kernel
theorem dX6_mutate_65 : decode cX6_mutate 65 = .ok (.iinc 3 1, 3) := by decide +kernel
theorem dX6_mutate_68 : decode cX6_mutate 68 = .ok (.goto (-43), 3) := by decide +kernel
theorem dX6_mutate_71 : decode cX6_mutate 71 = .ok (.aload_n 0, 1) := by decide +kernel
theorem dX6_mutate_72 : decode cX6_mutate 72 = .ok (.getfield 29, 3) := by decide +kernel
theorem dX6_mutate_75 : decode cX6_mutate 75 = .ok (.iload_n 1, 1) := by decide +kernel
theorem dX6_mutate_76 : decode cX6_mutate 76 = .ok (.aaload, 1) := by decide +kernel
theorem dX6_mutate_77 : decode cX6_mutate 77 = .ok (.iconst 0, 1) := by decide +kernel
theorem dX6_mutate_78 : decode cX6_mutate 78 = .ok (.iaload, 1) := by decide +kernel
theorem dX6_mutate_79 : decode cX6_mutate 79 = .ok (.invokestatic 57, 3) := by decide +kernel
theorem dX6_mutate_82 : decode cX6_mutate 82 = .ok (.astore_n 3, 1) := by decide +kernel
theorem dX6_mutate_83 : decode cX6_mutate 83 = .ok (.aload_n 0, 1) := by decide +kernel
theorem dX6_mutate_84 : decode cX6_mutate 84 = .ok (.iconst 4, 1) := by decide +kernel
theorem dX6_mutate_85 : decode cX6_mutate 85 = .ok (.invokevirtual 109, 3) := by decide +kernel
theorem dX6_mutate_88 : decode cX6_mutate 88 = .ok (.istore 4, 2) := by decide +kernel
theorem dX6_mutate_90 : decode cX6_mutate 90 = .ok (.aload_n 3, 1) := by decide +kernel
theorem dX6_mutate_91 : decode cX6_mutate 91 = .ok (.iload 4, 2) := by decide +kernel
theorem dX6_mutate_93 : decode cX6_mutate 93 = .ok (.aload_n 3, 1) := by decide +kernel
theorem dX6_mutate_94 : decode cX6_mutate 94 = .ok (.iload 4, 2) := by decide +kernel
theorem dX6_mutate_96 : decode cX6_mutate 96 = .ok (.iaload, 1) := by decide +kernel
theorem dX6_mutate_97 : decode cX6_mutate 97 = .ok (.iconst 1, 1) := by decide +kernel
theorem dX6_mutate_98 : decode cX6_mutate 98 = .ok (.iadd, 1) := by decide +kernel
theorem dX6_mutate_99 : decode cX6_mutate 99 = .ok (.aload_n 0, 1) := by decide +kernel
theorem dX6_mutate_100 : decode cX6_mutate 100 = .ok (.bipush 9, 2) := by decide +kernel
theorem dX6_mutate_102 : decode cX6_mutate 102 = .ok (.invokevirtual 109, 3) := by decide +kernel
theorem dX6_mutate_105 : decode cX6_mutate 105 = .ok (.iadd, 1) := by decide +kernel
theorem dX6_mutate_106 : decode cX6_mutate 106 = .ok (.bipush 10, 2) := by decide +kernel
theorem dX6_mutate_108 : decode cX6_mutate 108 = .ok (.irem, 1) := by decide +kernel
theorem dX6_mutate_109 : decode cX6_mutate 109 = .ok (.iastore, 1) := by decide +kernel
theorem dX6_mutate_110 : decode cX6_mutate 110 = .ok (.aload_n 0, 1) := by decide +kernel
theorem dX6_mutate_111 : decode cX6_mutate 111 = .ok (.getfield 29, 3) := by decide +kernel
theorem dX6_mutate_114 : decode cX6_mutate 114 = .ok (.iload_n 1, 1) := by decide +kernel
theorem dX6_mutate_115 : decode cX6_mutate 115 = .ok (.aaload, 1) := by decide +kernel
theorem dX6_mutate_116 : decode cX6_mutate 116 = .ok (.iconst 2, 1) := by decide +kernel
theorem dX6_mutate_117 : decode cX6_mutate 117 = .ok (.dup2, 1) := by decide +kernel
theorem dX6_mutate_118 : decode cX6_mutate 118 = .ok (.iaload, 1) := by decide +kernel
theorem dX6_mutate_119 : decode cX6_mutate 119 = .ok (.iconst 1, 1) := by decide +kernel
theorem dX6_mutate_120 : decode cX6_mutate 120 = .ok (.iadd, 1) := by decide +kernel
theorem dX6_mutate_121 : decode cX6_mutate 121 = .ok (.iastore, 1) := by decide +kernel
theorem dX6_mutate_122 : decode cX6_mutate 122 = .ok (.aload_n 0, 1) := by decide +kernel
theorem dX6_mutate_123 : decode cX6_mutate 123 = .ok (.aload_n 3, 1) := by decide +kernel
theorem dX6_mutate_124 : decode cX6_mutate 124 = .ok (.invokestatic 112, 3) := by decide +kernel
theorem dX6_mutate_127 : decode cX6_mutate 127 = .ok (.invokevirtual 119, 3) := by decide +kernel
theorem dX6_mutate_130 : decode cX6_mutate 130 = .ok (.pop, 1) := by decide +kernel
theorem dX6_mutate_131 : decode cX6_mutate 131 = .ok (.aload_n 0, 1) := by decide +kernel
theorem dX6_mutate_132 : decode cX6_mutate 132 = .ok (.getfield 10, 3) := by decide +kernel
theorem dX6_mutate_135 : decode cX6_mutate 135 = .ok (.invokevirtual 128, 3) := by decide +kernel
theorem dX6_mutate_138 : decode cX6_mutate 138 = .ok (.aload_n 3, 1) := by decide +kernel
theorem dX6_mutate_139 : decode cX6_mutate 139 = .ok (.invokestatic 112, 3) := by decide +kernel
theorem dX6_mutate_142 : decode cX6_mutate 142 = .ok (.if_icmp .ne 7, 3) := by decide +kernel
theorem dX6_mutate_145 : decode cX6_mutate 145 = .ok (.iconst 1, 1) := by decide +kernel
theorem dX6_mutate_146 : decode cX6_mutate 146 = .ok (.goto 4, 3) := by decide +kernel
theorem dX6_mutate_149 : decode cX6_mutate 149 = .ok (.iconst 0, 1) := by decide +kernel
theorem dX6_mutate_150 : decode cX6_mutate 150 = .ok (.ireturn, 1) := by decide +kernel
set_option maxRecDepth 20000 in
theorem ggX6_ask_X6_any : GoodIn wsX6_ask wsX6_any := goodIn_r _ [7, 8, 9, 10, 11, 12, 13, 14, 15, 16, 177, 178, 179, 180, 181, 182, 183, 184] (by decide +kernel) (by decide +kernel)
set_option maxRecDepth 20000 in
theorem gX6_ask_X6_any : GoodIn wsX6_ask (wsV RX6 131 RX6 yX6_any wsX6_any) := goodIn_app (goodIn_of _ (by decide +kernel)) ggX6_ask_X6_any
set_option maxRecDepth 20000 in
theorem ggX6_ask_X5_ask : GoodIn wsX6_ask wsX5_ask := goodIn_ca (goodIn_ca (goodIn_r _ [21, 22, 23, 24, 20, 25, 26, 27, 28, 29, 30, 31, 32, 33, 34, 35, 36, 37, 38, 39, 40, 41, 42, 43, 44, 45, 46, 47, 48, 49, 50, 51, 52, 53, 54, 55, 56, 57, 58, 59, 60, 61, 62, 63, 64, 65, 66, 67, 68, 69, 70, 71, 72, 73, 74, 75, 76, 77, 78, 79, 80, 81, 82, 83, 84, 85, 86, 87, 88, 89, 90, 91, 92, 93, 94, 95, 96, 97, 98, 99, 100, 101, 102, 103, 104, 105, 106, 107, 108, 109, 110, 111, 112, 113, 114, 115, 116, 117, 118, 119, 120, 121, 122, 123, 124, 185, 186, 187, 188, 189, 190, 191, 192, 193, 194, 195, 196, 197, 198, 199, 200, 201, 202, 203, 204] (by decide +kernel) (by decide +kernel)) (goodIn_sub (fun _ h => List.mem_cons_of_mem _ (List.mem_append_left _ (List.mem_append_right _ h))) (by decide +kernel))) (goodIn_sub (fun _ h => List.mem_cons_of_mem _ (List.mem_append_right _ h)) (by decide +kernel))
set_option maxRecDepth 20000 in
theorem gX6_ask_X5_ask : GoodIn wsX6_ask (wsV RX6 134 RX5 yX5_ask wsX5_ask) := goodIn_app (goodIn_of _ (by decide +kernel)) ggX6_ask_X5_ask
set_option maxRecDepth 20000 in
theorem ggX6_ask_X6_change : GoodIn wsX6_ask wsX6_change := goodIn_r _ [128, 129, 130, 131, 132, 6, 133, 134, 135, 136, 137, 138, 139, 140, 141, 142, 143, 144, 145, 146, 147, 1, 148, 149, 150, 151, 152, 153, 154, 155, 156, 157, 158, 159, 160, 161, 162, 163, 164, 165, 166, 167, 168, 169, 170, 171, 172, 173, 174, 175, 176, 177, 178, 179, 180, 181, 182, 183, 184] (by decide +kernel) (by decide +kernel)
set_option maxRecDepth 20000 in
theorem gX6_ask_X6_change : GoodIn wsX6_ask (wsV RX6 138 RX6 yX6_change wsX6_change) := goodIn_app (goodIn_of _ (by decide +kernel)) ggX6_ask_X6_change
theorem dX6_ask_0 : decode cX6_ask 0 = .ok (.aload_n 0, 1) := by decide +kernel
theorem dX6_ask_1 : decode cX6_ask 1 = .ok (.aload_n 0, 1) := by decide +kernel
theorem dX6_ask_2 : decode cX6_ask 2 = .ok (.iconst 3, 1) := by decide +kernel
theorem dX6_ask_3 : decode cX6_ask 3 = .ok (.invokevirtual 131, 3) := by decide +kernel
theorem dX6_ask_6 : decode cX6_ask 6 = .ok (.ifCond .ne 8, 3) := by decide +kernel
theorem dX6_ask_9 : decode cX6_ask 9 = .ok (.bipush 12, 2) := by decide +kernel
theorem dX6_ask_11 : decode cX6_ask 11 = .ok (.goto 4, 3) := by decide +kernel
theorem dX6_ask_14 : decode cX6_ask 14 = .ok (.iconst 5, 1) := by decide +kernel
theorem dX6_ask_15 : decode cX6_ask 15 = .ok (.invokevirtual 131, 3) := by decide +kernel
theorem dX6_ask_18 : decode cX6_ask 18 = .ok (.istore_n 1, 1) := by decide +kernel
theorem dX6_ask_19 : decode cX6_ask 19 = .ok (.aload_n 0, 1) := by decide +kernel
theorem dX6_ask_20 : decode cX6_ask 20 = .ok (.getfield 18, 3) := by decide +kernel
theorem dX6_ask_23 : decode cX6_ask 23 = .ok (.iload_n 1, 1) := by decide +kernel
theorem dX6_ask_24 : decode cX6_ask 24 = .ok (.aaload, 1) := by decide +kernel
theorem dX6_ask_25 : decode cX6_ask 25 = .ok (.astore_n 2, 1) := by decide +kernel
theorem dX6_ask_26 : decode cX6_ask 26 = .ok (.aload_n 2, 1) := by decide +kernel
theorem dX6_ask_27 : decode cX6_ask 27 = .ok (.iconst 0, 1) := by decide +kernel
theorem dX6_ask_28 : decode cX6_ask 28 = .ok (.aload_n 0, 1) := by decide +kernel
theorem dX6_ask_29 : decode cX6_ask 29 = .ok (.iconst 4, 1) := by decide +kernel
theorem dX6_ask_30 : decode cX6_ask 30 = .ok (.invokevirtual 131, 3) := by decide +kernel
theorem dX6_ask_33 : decode cX6_ask 33 = .ok (.iastore, 1) := by decide +kernel
theorem dX6_ask_34 : decode cX6_ask 34 = .ok (.aload_n 2, 1) := by decide +kernel
theorem dX6_ask_35 : decode cX6_ask 35 = .ok (.iconst 1, 1) := by decide +kernel
theorem dX6_ask_36 : decode cX6_ask 36 = .ok (.aload_n 0, 1) := by decide +kernel
theorem dX6_ask_37 : decode cX6_ask 37 = .ok (.iconst 3, 1) := by decide +kernel
theorem dX6_ask_38 : decode cX6_ask 38 = .ok (.invokevirtual 131, 3) := by decide +kernel
theorem dX6_ask_41 : decode cX6_ask 41 = .ok (.iastore, 1) := by decide +kernel
theorem dX6_ask_42 : decode cX6_ask 42 = .ok (.aload_n 2, 1) := by decide +kernel
theorem dX6_ask_43 : decode cX6_ask 43 = .ok (.iconst 2, 1) := by decide +kernel
theorem dX6_ask_44 : decode cX6_ask 44 = .ok (.aload_n 0, 1) := by decide +kernel
theorem dX6_ask_45 : decode cX6_ask 45 = .ok (.bipush 10, 2) := by decide +kernel
theorem dX6_ask_47 : decode cX6_ask 47 = .ok (.invokevirtual 131, 3) := by decide +kernel
theorem dX6_ask_50 : decode cX6_ask 50 = .ok (.iastore, 1) := by decide +kernel
theorem dX6_ask_51 : decode cX6_ask 51 = .ok (.aload_n 0, 1) := by decide +kernel
theorem dX6_ask_52 : decode cX6_ask 52 = .ok (.getfield 10, 3) := by decide +kernel
theorem dX6_ask_55 : decode cX6_ask 55 = .ok (.iload_n 1, 1) := by decide +kernel
theorem dX6_ask_56 : decode cX6_ask 56 = .ok (.aload_n 2, 1) := by decide +kernel
theorem dX6_ask_57 : decode cX6_ask 57 = .ok (.iconst 0, 1) := by decide +kernel
theorem dX6_ask_58 : decode cX6_ask 58 = .ok (.iaload, 1) := by decide +kernel
theorem dX6_ask_59 : decode cX6_ask 59 = .ok (.aload_n 2, 1) := by decide +kernel
theorem dX6_ask_60 : decode cX6_ask 60 = .ok (.iconst 1, 1) := by decide +kernel
theorem dX6_ask_61 : decode cX6_ask 61 = .ok (.iaload, 1) := by decide +kernel
theorem dX6_ask_62 : decode cX6_ask 62 = .ok (.aload_n 2, 1) := by decide +kernel
theorem dX6_ask_63 : decode cX6_ask 63 = .ok (.iconst 2, 1) := by decide +kernel
theorem dX6_ask_64 : decode cX6_ask 64 = .ok (.iaload, 1) := by decide +kernel
theorem dX6_ask_65 : decode cX6_ask 65 = .ok (.invokevirtual 134, 3) := by decide +kernel
theorem dX6_ask_68 : decode cX6_ask 68 = .ok (.aload_n 0, 1) := by decide +kernel
theorem dX6_ask_69 : decode cX6_ask 69 = .ok (.invokevirtual 138, 3) := by decide +kernel
theorem dX6_ask_72 : decode cX6_ask 72 = .ok (.if_icmp .ne 7, 3) := by decide +kernel
theorem dX6_ask_75 : decode cX6_ask 75 = .ok (.iconst 1, 1) := by decide +kernel
theorem dX6_ask_76 : decode cX6_ask 76 = .ok (.goto 4, 3) := by decide +kernel
theorem dX6_ask_79 : decode cX6_ask 79 = .ok (.iconst 0, 1) := by decide +kernel
theorem dX6_ask_80 : decode cX6_ask 80 = .ok (.ireturn, 1) := by decide +kernel
set_option maxRecDepth 20000 in
theorem ggX6_lead_X6_any : GoodIn wsX6_lead wsX6_any := goodIn_r _ [7, 8, 9, 10, 11, 12, 13, 14, 15, 16, 172, 173, 174, 175, 176, 177, 178, 179] (by decide +kernel) (by decide +kernel)
set_option maxRecDepth 20000 in
theorem gX6_lead_X6_any : GoodIn wsX6_lead (wsV RX6 131 RX6 yX6_any wsX6_any) := goodIn_app (goodIn_of _ (by decide +kernel)) ggX6_lead_X6_any
set_option maxRecDepth 20000 in
theorem ggX6_lead_X5_lead : GoodIn wsX6_lead wsX5_lead := goodIn_ca (goodIn_r _ [21, 22, 23, 24, 20, 25, 26, 27, 28, 29, 30, 31, 32, 33, 34, 35, 36, 37, 38, 39, 40, 41, 42, 43, 44, 45, 46, 47, 48, 49, 50, 51, 52, 53, 54, 55, 56, 57, 58, 59, 60, 61, 62, 63, 64, 65, 66, 67, 68, 69, 70, 71, 72, 73, 74, 75, 76, 77, 78, 79, 80, 81, 82, 83, 84, 85, 86, 87, 88, 89, 90, 91, 92, 93, 94, 95, 96, 97, 98, 99, 100, 101, 102, 103, 104, 105, 106, 107, 108, 109, 110, 111, 112, 113, 114, 115, 116, 117, 118, 119, 180, 181, 182, 183, 184, 185, 186, 187, 188, 189, 190, 191, 192, 193, 194, 195, 196, 197, 198, 199] (by decide +kernel) (by decide +kernel)) (goodIn_sub (fun _ h => List.mem_cons_of_mem _ (List.mem_append_right _ h)) (by decide +kernel))
set_option maxRecDepth 20000 in
theorem gX6_lead_X5_lead : GoodIn wsX6_lead (wsV RX6 141 RX5 yX5_lead wsX5_lead) := goodIn_app (goodIn_of _ (by decide +kernel)) ggX6_lead_X5_lead
set_option maxRecDepth 20000 in
theorem ggX6_lead_X6_change : GoodIn wsX6_lead wsX6_change := goodIn_r _ [123, 124, 125, 126, 127, 6, 128, 129, 130, 131, 132, 133, 134, 135, 136, 137, 138, 139, 140, 141, 142, 1, 143, 144, 145, 146, 147, 148, 149, 150, 151, 152, 153, 154, 155, 156, 157, 158, 159, 160, 161, 162, 163, 164, 165, 166, 167, 168, 169, 170, 171, 172, 173, 174, 175, 176, 177, 178, 179] (by decide +kernel) (by decide +kernel)
set_option maxRecDepth 20000 in
theorem gX6_lead_X6_change : GoodIn wsX6_lead (wsV RX6 138 RX6 yX6_change wsX6_change) := goodIn_app (goodIn_of _ (by decide +kernel)) ggX6_lead_X6_change
theorem dX6_lead_0 : decode cX6_lead 0 = .ok (.aload_n 0, 1) := by decide +kernel
theorem dX6_lead_1 : decode cX6_lead 1 = .ok (.aload_n 0, 1) := by decide +kernel
theorem dX6_lead_2 : decode cX6_lead 2 = .ok (.iconst 3, 1) := by decide +kernel
theorem dX6_lead_3 : decode cX6_lead 3 = .ok (.invokevirtual 131, 3) := by decide +kernel
theorem dX6_lead_6 : decode cX6_lead 6 = .ok (.ifCond .ne 8, 3) := by decide +kernel
theorem dX6_lead_9 : decode cX6_lead 9 = .ok (.bipush 12, 2) := by decide +kernel
theorem dX6_lead_11 : decode cX6_lead 11 = .ok (.goto 4, 3) := by decide +kernel
theorem dX6_lead_14 : decode cX6_lead 14 = .ok (.iconst 5, 1) := by decide +kernel
theorem dX6_lead_15 : decode cX6_lead 15 = .ok (.invokevirtual 131, 3) := by decide +kernel
theorem dX6_lead_18 : decode cX6_lead 18 = .ok (.istore_n 1, 1) := by decide +kernel
theorem dX6_lead_19 : decode cX6_lead 19 = .ok (.aload_n 0, 1) := by decide +kernel
theorem dX6_lead_20 : decode cX6_lead 20 = .ok (.getfield 18, 3) := by decide +kernel
theorem dX6_lead_23 : decode cX6_lead 23 = .ok (.iload_n 1, 1) := by decide +kernel
theorem dX6_lead_24 : decode cX6_lead 24 = .ok (.aaload, 1) := by decide +kernel
theorem dX6_lead_25 : decode cX6_lead 25 = .ok (.iconst 3, 1) := by decide +kernel
theorem dX6_lead_26 : decode cX6_lead 26 = .ok (.aload_n 0, 1) := by decide +kernel
theorem dX6_lead_27 : decode cX6_lead 27 = .ok (.iconst 4, 1) := by decide +kernel
theorem dX6_lead_28 : decode cX6_lead 28 = .ok (.invokevirtual 131, 3) := by decide +kernel
theorem dX6_lead_31 : decode cX6_lead 31 = .ok (.ifCond .ne 7, 3) := by decide +kernel
theorem dX6_lead_34 : decode cX6_lead 34 = .ok (.iconst (-1), 1) := by decide +kernel
theorem dX6_lead_35 : decode cX6_lead 35 = .ok (.goto 22, 3) := by decide +kernel
theorem dX6_lead_38 : decode cX6_lead 38 = .ok (.aload_n 0, 1) := by decide +kernel
theorem dX6_lead_39 : decode cX6_lead 39 = .ok (.aload_n 0, 1) := by decide +kernel
theorem dX6_lead_40 : decode cX6_lead 40 = .ok (.iconst 4, 1) := by decide +kernel
theorem dX6_lead_41 : decode cX6_lead 41 = .ok (.invokevirtual 131, 3) := by decide +kernel
theorem dX6_lead_44 : decode cX6_lead 44 = .ok (.ifCond .ne 8, 3) := by decide +kernel
theorem dX6_lead_47 : decode cX6_lead 47 = .ok (.bipush 12, 2) := by decide +kernel
theorem dX6_lead_49 : decode cX6_lead 49 = .ok (.goto 5, 3) := by decide +kernel
theorem dX6_lead_52 : decode cX6_lead 52 = .ok (.bipush 6, 2) := by decide +kernel
theorem dX6_lead_54 : decode cX6_lead 54 = .ok (.invokevirtual 131, 3) := by decide +kernel
theorem dX6_lead_57 : decode cX6_lead 57 = .ok (.iastore, 1) := by decide +kernel
theorem dX6_lead_58 : decode cX6_lead 58 = .ok (.aload_n 0, 1) := by decide +kernel
theorem dX6_lead_59 : decode cX6_lead 59 = .ok (.getfield 18, 3) := by decide +kernel
theorem dX6_lead_62 : decode cX6_lead 62 = .ok (.iload_n 1, 1) := by decide +kernel
theorem dX6_lead_63 : decode cX6_lead 63 = .ok (.aaload, 1) := by decide +kernel
theorem dX6_lead_64 : decode cX6_lead 64 = .ok (.iconst 4, 1) := by decide +kernel
theorem dX6_lead_65 : decode cX6_lead 65 = .ok (.aload_n 0, 1) := by decide +kernel
theorem dX6_lead_66 : decode cX6_lead 66 = .ok (.iconst 3, 1) := by decide +kernel
theorem dX6_lead_67 : decode cX6_lead 67 = .ok (.invokevirtual 131, 3) := by decide +kernel
theorem dX6_lead_70 : decode cX6_lead 70 = .ok (.ifCond .ne 7, 3) := by decide +kernel
theorem dX6_lead_73 : decode cX6_lead 73 = .ok (.iconst (-1), 1) := by decide +kernel
theorem dX6_lead_74 : decode cX6_lead 74 = .ok (.goto 9, 3) := by decide +kernel
theorem dX6_lead_77 : decode cX6_lead 77 = .ok (.aload_n 0, 1) := by decide +kernel
theorem dX6_lead_78 : decode cX6_lead 78 = .ok (.bipush 6, 2) := by decide +kernel
theorem dX6_lead_80 : decode cX6_lead 80 = .ok (.invokevirtual 131, 3) := by decide +kernel
theorem dX6_lead_83 : decode cX6_lead 83 = .ok (.iastore, 1) := by decide +kernel
theorem dX6_lead_84 : decode cX6_lead 84 = .ok (.aload_n 0, 1) := by decide +kernel
theorem dX6_lead_85 : decode cX6_lead 85 = .ok (.getfield 10, 3) := by decide +kernel
theorem dX6_lead_88 : decode cX6_lead 88 = .ok (.iload_n 1, 1) := by decide +kernel
theorem dX6_lead_89 : decode cX6_lead 89 = .ok (.aload_n 0, 1) := by decide +kernel
theorem dX6_lead_90 : decode cX6_lead 90 = .ok (.getfield 18, 3) := by decide +kernel
theorem dX6_lead_93 : decode cX6_lead 93 = .ok (.iload_n 1, 1) := by decide +kernel
theorem dX6_lead_94 : decode cX6_lead 94 = .ok (.aaload, 1) := by decide +kernel
theorem dX6_lead_95 : decode cX6_lead 95 = .ok (.iconst 3, 1) := by decide +kernel
theorem dX6_lead_96 : decode cX6_lead 96 = .ok (.iaload, 1) := by decide +kernel
theorem dX6_lead_97 : decode cX6_lead 97 = .ok (.aload_n 0, 1) := by decide +kernel
theorem dX6_lead_98 : decode cX6_lead 98 = .ok (.getfield 18, 3) := by decide +kernel
theorem dX6_lead_101 : decode cX6_lead 101 = .ok (.iload_n 1, 1) := by decide +kernel
theorem dX6_lead_102 : decode cX6_lead 102 = .ok (.aaload, 1) := by decide +kernel
theorem dX6_lead_103 : decode cX6_lead 103 = .ok (.iconst 4, 1) := by decide +kernel
theorem dX6_lead_104 : decode cX6_lead 104 = .ok (.iaload, 1) := by decide +kernel
theorem dX6_lead_105 : decode cX6_lead 105 = .ok (.invokevirtual 141, 3) := by decide +kernel
theorem dX6_lead_108 : decode cX6_lead 108 = .ok (.aload_n 0, 1) := by decide +kernel
theorem dX6_lead_109 : decode cX6_lead 109 = .ok (.invokevirtual 138, 3) := by decide +kernel
theorem dX6_lead_112 : decode cX6_lead 112 = .ok (.if_icmp .ne 7, 3) := by decide +kernel
theorem dX6_lead_115 : decode cX6_lead 115 = .ok (.iconst 1, 1) := by decide +kernel
theorem dX6_lead_116 : decode cX6_lead 116 = .ok (.goto 4, 3) := by decide +kernel
theorem dX6_lead_119 : decode cX6_lead 119 = .ok (.iconst 0, 1) := by decide +kernel
theorem dX6_lead_120 : decode cX6_lead 120 = .ok (.ireturn, 1) := by decide +kernel
set_option maxRecDepth 20000 in
theorem ggX6_bad_X6_any : GoodIn wsX6_bad wsX6_any := goodIn_r _ [7, 8, 9, 10, 11, 12, 13, 14, 15, 16, 169, 170, 171, 172, 173, 174, 175, 176] (by decide +kernel) (by decide +kernel)
set_option maxRecDepth 20000 in
theorem gX6_bad_X6_any : GoodIn wsX6_bad (wsV RX6 131 RX6 yX6_any wsX6_any) := goodIn_app (goodIn_of _ (by decide +kernel)) ggX6_bad_X6_any
set_option maxRecDepth 20000 in
theorem ggX6_bad_X5_bad : GoodIn wsX6_bad wsX5_bad := goodIn_ca (goodIn_r _ [21, 22, 23, 24, 20, 25, 26, 27, 28, 29, 30, 31, 32, 33, 34, 35, 36, 37, 38, 39, 40, 41, 42, 43, 44, 45, 46, 47, 48, 49, 50, 51, 52, 53, 54, 55, 56, 57, 58, 59, 60, 61, 62, 63, 64, 65, 66, 67, 68, 69, 70, 71, 72, 73, 74, 75, 76, 77, 78, 79, 80, 81, 82, 83, 84, 85, 86, 87, 88, 89, 90, 91, 92, 93, 94, 95, 96, 97, 98, 99, 100, 101, 102, 103, 104, 105, 106, 107, 108, 109, 110, 111, 112, 113, 114, 115, 116, 177, 178, 179, 180, 181, 182, 183, 184, 185, 186, 187, 188, 189, 190, 191, 192, 193, 194, 195, 196] (by decide +kernel) (by decide +kernel)) (goodIn_sub (fun _ h => List.mem_cons_of_mem _ (List.mem_append_right _ h)) (by decide +kernel))
set_option maxRecDepth 20000 in
theorem gX6_bad_X5_bad : GoodIn wsX6_bad (wsV RX6 145 RX5 yX5_bad wsX5_bad) := goodIn_app (goodIn_of _ (by decide +kernel)) ggX6_bad_X5_bad
set_option maxRecDepth 20000 in
theorem ggX6_bad_X6_change : GoodIn wsX6_bad wsX6_change := goodIn_r _ [120, 121, 122, 123, 124, 6, 125, 126, 127, 128, 129, 130, 131, 132, 133, 134, 135, 136, 137, 138, 139, 1, 140, 141, 142, 143, 144, 145, 146, 147, 148, 149, 150, 151, 152, 153, 154, 155, 156, 157, 158, 159, 160, 161, 162, 163, 164, 165, 166, 167, 168, 169, 170, 171, 172, 173, 174, 175, 176] (by decide +kernel) (by decide +kernel)
set_option maxRecDepth 20000 in
theorem gX6_bad_X6_change : GoodIn wsX6_bad (wsV RX6 138 RX6 yX6_change wsX6_change) := goodIn_app (goodIn_of _ (by decide +kernel)) ggX6_bad_X6_change
theorem dX6_bad_0 : decode cX6_bad 0 = .ok (.iconst 1, 1) := by decide +kernel
theorem dX6_bad_1 : decode cX6_bad 1 = .ok (.aload_n 0, 1) := by decide +kernel
theorem dX6_bad_2 : decode cX6_bad 2 = .ok (.aload_n 0, 1) := by decide +kernel
theorem dX6_bad_3 : decode cX6_bad 3 = .ok (.bipush 12, 2) := by decide +kernel
theorem dX6_bad_5 : decode cX6_bad 5 = .ok (.invokevirtual 131, 3) := by decide +kernel
theorem dX6_bad_8 : decode cX6_bad 8 = .ok (.ifCond .ne 8, 3) := by decide +kernel
theorem dX6_bad_11 : decode cX6_bad 11 = .ok (.bipush 11, 2) := by decide +kernel
theorem dX6_bad_13 : decode cX6_bad 13 = .ok (.goto 4, 3) := by decide +kernel
theorem dX6_bad_16 : decode cX6_bad 16 = .ok (.iconst 5, 1) := by decide +kernel
theorem dX6_bad_17 : decode cX6_bad 17 = .ok (.invokevirtual 131, 3) := by decide +kernel
theorem dX6_bad_20 : decode cX6_bad 20 = .ok (.iadd, 1) := by decide +kernel
theorem dX6_bad_21 : decode cX6_bad 21 = .ok (.istore_n 1, 1) := by decide +kernel
theorem dX6_bad_22 : decode cX6_bad 22 = .ok (.aload_n 0, 1) := by decide +kernel
theorem dX6_bad_23 : decode cX6_bad 23 = .ok (.getfield 18, 3) := by decide +kernel
theorem dX6_bad_26 : decode cX6_bad 26 = .ok (.iload_n 1, 1) := by decide +kernel
theorem dX6_bad_27 : decode cX6_bad 27 = .ok (.aaload, 1) := by decide +kernel
theorem dX6_bad_28 : decode cX6_bad 28 = .ok (.iconst 5, 1) := by decide +kernel
theorem dX6_bad_29 : decode cX6_bad 29 = .ok (.aload_n 0, 1) := by decide +kernel
theorem dX6_bad_30 : decode cX6_bad 30 = .ok (.iconst 2, 1) := by decide +kernel
theorem dX6_bad_31 : decode cX6_bad 31 = .ok (.invokevirtual 131, 3) := by decide +kernel
theorem dX6_bad_34 : decode cX6_bad 34 = .ok (.iastore, 1) := by decide +kernel
theorem dX6_bad_35 : decode cX6_bad 35 = .ok (.aload_n 0, 1) := by decide +kernel
theorem dX6_bad_36 : decode cX6_bad 36 = .ok (.getfield 10, 3) := by decide +kernel
theorem dX6_bad_39 : decode cX6_bad 39 = .ok (.iload_n 1, 1) := by decide +kernel
theorem dX6_bad_40 : decode cX6_bad 40 = .ok (.aload_n 0, 1) := by decide +kernel
theorem dX6_bad_41 : decode cX6_bad 41 = .ok (.getfield 18, 3) := by decide +kernel
theorem dX6_bad_44 : decode cX6_bad 44 = .ok (.iload_n 1, 1) := by decide +kernel
theorem dX6_bad_45 : decode cX6_bad 45 = .ok (.aaload, 1) := by decide +kernel
theorem dX6_bad_46 : decode cX6_bad 46 = .ok (.iconst 5, 1) := by decide +kernel
theorem dX6_bad_47 : decode cX6_bad 47 = .ok (.iaload, 1) := by decide +kernel
theorem dX6_bad_48 : decode cX6_bad 48 = .ok (.iconst 1, 1) := by decide +kernel
theorem dX6_bad_49 : decode cX6_bad 49 = .ok (.if_icmp .ne 7, 3) := by decide +kernel
theorem dX6_bad_52 : decode cX6_bad 52 = .ok (.iconst 1, 1) := by decide +kernel
theorem dX6_bad_53 : decode cX6_bad 53 = .ok (.goto 4, 3) := by decide +kernel
theorem dX6_bad_56 : decode cX6_bad 56 = .ok (.iconst 0, 1) := by decide +kernel
theorem dX6_bad_57 : decode cX6_bad 57 = .ok (.invokevirtual 145, 3) := by decide +kernel
theorem dX6_bad_60 : decode cX6_bad 60 = .ok (.aload_n 0, 1) := by decide +kernel
theorem dX6_bad_61 : decode cX6_bad 61 = .ok (.invokevirtual 138, 3) := by decide +kernel
theorem dX6_bad_64 : decode cX6_bad 64 = .ok (.if_icmp .ne 7, 3) := by decide +kernel
theorem dX6_bad_67 : decode cX6_bad 67 = .ok (.iconst 1, 1) := by decide +kernel
theorem dX6_bad_68 : decode cX6_bad 68 = .ok (.goto 4, 3) := by decide +kernel
theorem dX6_bad_71 : decode cX6_bad 71 = .ok (.iconst 0, 1) := by decide +kernel
theorem dX6_bad_72 : decode cX6_bad 72 = .ok (.ireturn, 1) := by decide +kernel
set_option maxRecDepth 20000 in
theorem ggX6_tasteOne_X6_any : GoodIn wsX6_tasteOne wsX6_any := goodIn_r _ [7, 8, 9, 10, 11, 12, 13, 14, 15, 16, 173, 174, 175, 176, 177, 178, 179, 180] (by decide +kernel) (by decide +kernel)
set_option maxRecDepth 20000 in
theorem gX6_tasteOne_X6_any : GoodIn wsX6_tasteOne (wsV RX6 131 RX6 yX6_any wsX6_any) := goodIn_app (goodIn_of _ (by decide +kernel)) ggX6_tasteOne_X6_any
set_option maxRecDepth 20000 in
theorem ggX6_tasteOne_X5_taste : GoodIn wsX6_tasteOne wsX5_taste := goodIn_ca (goodIn_ca (goodIn_r _ [21, 22, 23, 20, 24, 25, 26, 27, 28, 29, 30, 31, 32, 33, 34, 35, 36, 37, 38, 39, 40, 41, 42, 43, 44, 45, 46, 47, 48, 49, 50, 51, 52, 53, 54, 55, 56, 57, 58, 59, 60, 61, 62, 63, 64, 65, 66, 67, 68, 69, 70, 71, 72, 73, 74, 75, 76, 77, 78, 79, 80, 81, 82, 83, 84, 85, 86, 87, 88, 89, 90, 91, 92, 93, 94, 95, 96, 97, 98, 99, 100, 101, 102, 103, 104, 105, 106, 107, 108, 109, 110, 111, 112, 113, 114, 115, 116, 181, 182, 183, 184, 185, 186, 187, 188, 189, 190, 191, 192, 193, 194, 195, 196, 197, 198, 199, 200] (by decide +kernel) (by decide +kernel)) (goodIn_sub (fun _ h => List.mem_cons_of_mem _ (List.mem_append_left _ (List.mem_append_right _ h))) (by decide +kernel))) (goodIn_sub (fun _ h => List.mem_cons_of_mem _ (List.mem_append_right _ h)) (by decide +kernel))
set_option maxRecDepth 20000 in
theorem gX6_tasteOne_X5_taste : GoodIn wsX6_tasteOne (wsV RX6 149 RX5 yX5_taste wsX5_taste) := goodIn_app (goodIn_of _ (by decide +kernel)) ggX6_tasteOne_X5_taste
set_option maxRecDepth 20000 in
theorem ggX6_tasteOne_X6_taste : GoodIn wsX6_tasteOne wsX6_taste := goodIn_r _ [120, 121, 1, 122, 123, 124, 6, 125, 126, 127, 128, 129, 130, 131, 132, 133, 134, 135, 136, 137, 138, 139, 140, 141, 142, 143, 144, 145, 146, 147, 148, 149, 150, 151, 152, 153, 154, 155, 156, 157, 158, 159, 160, 161, 162, 163, 164, 165, 166, 167, 168, 169, 170, 171, 172, 173, 174, 175, 176, 177, 178, 179, 180] (by decide +kernel) (by decide +kernel)
set_option maxRecDepth 20000 in
theorem gX6_tasteOne_X6_taste : GoodIn wsX6_tasteOne (wsV RX6 119 RX6 yX6_taste wsX6_taste) := goodIn_app (goodIn_of _ (by decide +kernel)) ggX6_tasteOne_X6_taste
theorem dX6_tasteOne_0 : decode cX6_tasteOne 0 = .ok (.aload_n 0, 1) := by decide +kernel
theorem dX6_tasteOne_1 : decode cX6_tasteOne 1 = .ok (.sipush 10000, 3) := by decide +kernel
theorem dX6_tasteOne_4 : decode cX6_tasteOne 4 = .ok (.invokevirtual 131, 3) := by decide +kernel
theorem dX6_tasteOne_7 : decode cX6_tasteOne 7 = .ok (.istore_n 1, 1) := by decide +kernel
theorem dX6_tasteOne_8 : decode cX6_tasteOne 8 = .ok (.aload_n 0, 1) := by decide +kernel
theorem dX6_tasteOne_9 : decode cX6_tasteOne 9 = .ok (.getfield 29, 3) := by decide +kernel
theorem dX6_tasteOne_12 : decode cX6_tasteOne 12 = .ok (.arraylength, 1) := by decide +kernel
theorem dX6_tasteOne_13 : decode cX6_tasteOne 13 = .ok (.bipush 40, 2) := by decide +kernel
theorem dX6_tasteOne_15 : decode cX6_tasteOne 15 = .ok (.if_icmp .ne 5, 3) := by decide +kernel
theorem dX6_tasteOne_18 : decode cX6_tasteOne 18 = .ok (.iconst 1, 1) := by decide +kernel
theorem dX6_tasteOne_19 : decode cX6_tasteOne 19 = .ok (.ireturn, 1) := by decide +kernel
theorem dX6_tasteOne_20 : decode cX6_tasteOne 20 = .ok (.aload_n 0, 1) := by decide +kernel
theorem dX6_tasteOne_21 : decode cX6_tasteOne 21 = .ok (.getfield 10, 3) := by decide +kernel
theorem dX6_tasteOne_24 : decode cX6_tasteOne 24 = .ok (.iload_n 1, 1) := by decide +kernel
theorem dX6_tasteOne_25 : decode cX6_tasteOne 25 = .ok (.invokevirtual 149, 3) := by decide +kernel
theorem dX6_tasteOne_28 : decode cX6_tasteOne 28 = .ok (.aload_n 0, 1) := by decide +kernel
theorem dX6_tasteOne_29 : decode cX6_tasteOne 29 = .ok (.iload_n 1, 1) := by decide +kernel
theorem dX6_tasteOne_30 : decode cX6_tasteOne 30 = .ok (.invokevirtual 119, 3) := by decide +kernel
theorem dX6_tasteOne_33 : decode cX6_tasteOne 33 = .ok (.if_icmp .ne 7, 3) := by decide +kernel
theorem dX6_tasteOne_36 : decode cX6_tasteOne 36 = .ok (.iconst 1, 1) := by decide +kernel
theorem dX6_tasteOne_37 : decode cX6_tasteOne 37 = .ok (.goto 4, 3) := by decide +kernel
theorem dX6_tasteOne_40 : decode cX6_tasteOne 40 = .ok (.iconst 0, 1) := by decide +kernel
theorem dX6_tasteOne_41 : decode cX6_tasteOne 41 = .ok (.ireturn, 1) := by decide +kernel
set_option maxRecDepth 20000 in
theorem ggX6_weigh_X6_any : GoodIn wsX6_weigh wsX6_any := goodIn_r _ [7, 8, 9, 10, 11, 12, 13, 14, 15, 16, 45, 46, 47, 48, 49, 50, 51, 52] (by decide +kernel) (by decide +kernel)
set_option maxRecDepth 20000 in
theorem gX6_weigh_X6_any : GoodIn wsX6_weigh (wsV RX6 131 RX6 yX6_any wsX6_any) := goodIn_app (goodIn_of _ (by decide +kernel)) ggX6_weigh_X6_any
set_option maxRecDepth 20000 in
theorem ggX6_weigh_X5_weights : GoodIn wsX6_weigh wsX5_weights := goodIn_ca (goodIn_ca (goodIn_r _ [21, 22, 23, 24, 20, 25, 26, 27, 28, 29, 30, 31, 32, 33, 34, 35, 36, 37, 38, 39, 40, 41, 42, 43, 44, 53, 54, 55, 56, 57, 58, 59, 60, 61] (by decide +kernel) (by decide +kernel)) (goodIn_sub (fun _ h => List.mem_cons_of_mem _ (List.mem_append_left _ (List.mem_append_right _ h))) (by decide +kernel))) (goodIn_sub (fun _ h => List.mem_cons_of_mem _ (List.mem_append_right _ h)) (by decide +kernel))
set_option maxRecDepth 20000 in
theorem gX6_weigh_X5_weights : GoodIn wsX6_weigh (wsV RX6 150 RX5 yX5_weights wsX5_weights) := goodIn_app (goodIn_of _ (by decide +kernel)) ggX6_weigh_X5_weights
theorem dX6_weigh_0 : decode cX6_weigh 0 = .ok (.aload_n 0, 1) := by decide +kernel
theorem dX6_weigh_1 : decode cX6_weigh 1 = .ok (.iconst 4, 1) := by decide +kernel
theorem dX6_weigh_2 : decode cX6_weigh 2 = .ok (.invokevirtual 131, 3) := by decide +kernel
theorem dX6_weigh_5 : decode cX6_weigh 5 = .ok (.istore_n 1, 1) := by decide +kernel
theorem dX6_weigh_6 : decode cX6_weigh 6 = .ok (.aload_n 0, 1) := by decide +kernel
theorem dX6_weigh_7 : decode cX6_weigh 7 = .ok (.getfield 22, 3) := by decide +kernel
theorem dX6_weigh_10 : decode cX6_weigh 10 = .ok (.iload_n 1, 1) := by decide +kernel
theorem dX6_weigh_11 : decode cX6_weigh 11 = .ok (.aaload, 1) := by decide +kernel
theorem dX6_weigh_12 : decode cX6_weigh 12 = .ok (.iconst 0, 1) := by decide +kernel
theorem dX6_weigh_13 : decode cX6_weigh 13 = .ok (.iaload, 1) := by decide +kernel
theorem dX6_weigh_14 : decode cX6_weigh 14 = .ok (.aload_n 0, 1) := by decide +kernel
theorem dX6_weigh_15 : decode cX6_weigh 15 = .ok (.getfield 22, 3) := by decide +kernel
theorem dX6_weigh_18 : decode cX6_weigh 18 = .ok (.iload_n 1, 1) := by decide +kernel
theorem dX6_weigh_19 : decode cX6_weigh 19 = .ok (.aaload, 1) := by decide +kernel
theorem dX6_weigh_20 : decode cX6_weigh 20 = .ok (.iconst 1, 1) := by decide +kernel
theorem dX6_weigh_21 : decode cX6_weigh 21 = .ok (.iaload, 1) := by decide +kernel
theorem dX6_weigh_22 : decode cX6_weigh 22 = .ok (.iadd, 1) := by decide +kernel
theorem dX6_weigh_23 : decode cX6_weigh 23 = .ok (.aload_n 0, 1) := by decide +kernel
theorem dX6_weigh_24 : decode cX6_weigh 24 = .ok (.getfield 22, 3) := by decide +kernel
theorem dX6_weigh_27 : decode cX6_weigh 27 = .ok (.iload_n 1, 1) := by decide +kernel
theorem dX6_weigh_28 : decode cX6_weigh 28 = .ok (.aaload, 1) := by decide +kernel
theorem dX6_weigh_29 : decode cX6_weigh 29 = .ok (.iconst 2, 1) := by decide +kernel
theorem dX6_weigh_30 : decode cX6_weigh 30 = .ok (.iaload, 1) := by decide +kernel
theorem dX6_weigh_31 : decode cX6_weigh 31 = .ok (.iadd, 1) := by decide +kernel
theorem dX6_weigh_32 : decode cX6_weigh 32 = .ok (.istore_n 2, 1) := by decide +kernel
theorem dX6_weigh_33 : decode cX6_weigh 33 = .ok (.iconst 0, 1) := by decide +kernel
theorem dX6_weigh_34 : decode cX6_weigh 34 = .ok (.istore_n 3, 1) := by decide +kernel
theorem dX6_weigh_35 : decode cX6_weigh 35 = .ok (.iload_n 3, 1) := by decide +kernel
theorem dX6_weigh_36 : decode cX6_weigh 36 = .ok (.iconst 3, 1) := by decide +kernel
theorem dX6_weigh_37 : decode cX6_weigh 37 = .ok (.if_icmp .ge 22, 3) := by decide +kernel
theorem dX6_weigh_40 : decode cX6_weigh 40 = .ok (.aload_n 0, 1) := by decide +kernel
theorem dX6_weigh_41 : decode cX6_weigh 41 = .ok (.getfield 22, 3) := by decide +kernel
theorem dX6_weigh_44 : decode cX6_weigh 44 = .ok (.iload_n 1, 1) := by decide +kernel
theorem dX6_weigh_45 : decode cX6_weigh 45 = .ok (.aaload, 1) := by decide +kernel
theorem dX6_weigh_46 : decode cX6_weigh 46 = .ok (.iload_n 3, 1) := by decide +kernel
theorem dX6_weigh_47 : decode cX6_weigh 47 = .ok (.aload_n 0, 1) := by decide +kernel
theorem dX6_weigh_48 : decode cX6_weigh 48 = .ok (.iconst 4, 1) := by decide +kernel
theorem dX6_weigh_49 : decode cX6_weigh 49 = .ok (.invokevirtual 131, 3) := by decide +kernel
theorem dX6_weigh_52 : decode cX6_weigh 52 = .ok (.iastore, 1) := by decide +kernel
theorem dX6_weigh_53 : decode cX6_weigh 53 = .ok (.iinc 3 1, 3) := by decide +kernel
theorem dX6_weigh_56 : decode cX6_weigh 56 = .ok (.goto (-21), 3) := by decide +kernel
theorem dX6_weigh_59 : decode cX6_weigh 59 = .ok (.aload_n 0, 1) := by decide +kernel
theorem dX6_weigh_60 : decode cX6_weigh 60 = .ok (.getfield 10, 3) := by decide +kernel
theorem dX6_weigh_63 : decode cX6_weigh 63 = .ok (.iload_n 1, 1) := by decide +kernel
theorem dX6_weigh_64 : decode cX6_weigh 64 = .ok (.aload_n 0, 1) := by decide +kernel
theorem dX6_weigh_65 : decode cX6_weigh 65 = .ok (.getfield 22, 3) := by decide +kernel
theorem dX6_weigh_68 : decode cX6_weigh 68 = .ok (.iload_n 1, 1) := by decide +kernel
theorem dX6_weigh_69 : decode cX6_weigh 69 = .ok (.aaload, 1) := by decide +kernel
theorem dX6_weigh_70 : decode cX6_weigh 70 = .ok (.iconst 0, 1) := by decide +kernel
theorem dX6_weigh_71 : decode cX6_weigh 71 = .ok (.iaload, 1) := by decide +kernel
theorem dX6_weigh_72 : decode cX6_weigh 72 = .ok (.aload_n 0, 1) := by decide +kernel
theorem dX6_weigh_73 : decode cX6_weigh 73 = .ok (.getfield 22, 3) := by decide +kernel
theorem dX6_weigh_76 : decode cX6_weigh 76 = .ok (.iload_n 1, 1) := by decide +kernel
theorem dX6_weigh_77 : decode cX6_weigh 77 = .ok (.aaload, 1) := by decide +kernel
theorem dX6_weigh_78 : decode cX6_weigh 78 = .ok (.iconst 1, 1) := by decide +kernel
theorem dX6_weigh_79 : decode cX6_weigh 79 = .ok (.iaload, 1) := by decide +kernel
theorem dX6_weigh_80 : decode cX6_weigh 80 = .ok (.aload_n 0, 1) := by decide +kernel
theorem dX6_weigh_81 : decode cX6_weigh 81 = .ok (.getfield 22, 3) := by decide +kernel
theorem dX6_weigh_84 : decode cX6_weigh 84 = .ok (.iload_n 1, 1) := by decide +kernel
theorem dX6_weigh_85 : decode cX6_weigh 85 = .ok (.aaload, 1) := by decide +kernel
theorem dX6_weigh_86 : decode cX6_weigh 86 = .ok (.iconst 2, 1) := by decide +kernel
theorem dX6_weigh_87 : decode cX6_weigh 87 = .ok (.iaload, 1) := by decide +kernel
theorem dX6_weigh_88 : decode cX6_weigh 88 = .ok (.invokevirtual 150, 3) := by decide +kernel
theorem dX6_weigh_91 : decode cX6_weigh 91 = .ok (.iload_n 2, 1) := by decide +kernel
theorem dX6_weigh_92 : decode cX6_weigh 92 = .ok (.if_icmp .ne 7, 3) := by decide +kernel
theorem dX6_weigh_95 : decode cX6_weigh 95 = .ok (.iconst 1, 1) := by decide +kernel
theorem dX6_weigh_96 : decode cX6_weigh 96 = .ok (.goto 4, 3) := by decide +kernel
theorem dX6_weigh_99 : decode cX6_weigh 99 = .ok (.iconst 0, 1) := by decide +kernel
theorem dX6_weigh_100 : decode cX6_weigh 100 = .ok (.ireturn, 1) := by decide +kernel
set_option maxRecDepth 20000 in
theorem ggX6_redraw_X6_any : GoodIn wsX6_redraw wsX6_any := goodIn_r _ [7, 8, 9, 10, 11, 12, 13, 14, 15, 16, 25, 26, 27, 28, 29, 30, 31, 32] (by decide +kernel) (by decide +kernel)
set_option maxRecDepth 20000 in
theorem gX6_redraw_X6_any : GoodIn wsX6_redraw (wsV RX6 131 RX6 yX6_any wsX6_any) := goodIn_app (goodIn_of _ (by decide +kernel)) ggX6_redraw_X6_any
set_option maxRecDepth 20000 in
theorem ggX6_redraw_X5_draw : GoodIn wsX6_redraw wsX5_draw := goodIn_ca (goodIn_r _ [21, 22, 23, 24, 33, 34, 35, 36, 37, 38, 39, 40, 41] (by decide +kernel) (by decide +kernel)) (goodIn_sub (fun _ h => List.mem_cons_of_mem _ (List.mem_append_right _ h)) (by decide +kernel))
set_option maxRecDepth 20000 in
theorem gX6_redraw_X5_draw : GoodIn wsX6_redraw (wsV RX6 152 RX5 yX5_draw wsX5_draw) := goodIn_app (goodIn_of _ (by decide +kernel)) ggX6_redraw_X5_draw
theorem dX6_redraw_0 : decode cX6_redraw 0 = .ok (.aload_n 0, 1) := by decide +kernel
theorem dX6_redraw_1 : decode cX6_redraw 1 = .ok (.getfield 25, 3) := by decide +kernel
theorem dX6_redraw_4 : decode cX6_redraw 4 = .ok (.istore_n 1, 1) := by decide +kernel
theorem dX6_redraw_5 : decode cX6_redraw 5 = .ok (.aload_n 0, 1) := by decide +kernel
theorem dX6_redraw_6 : decode cX6_redraw 6 = .ok (.aload_n 0, 1) := by decide +kernel
theorem dX6_redraw_7 : decode cX6_redraw 7 = .ok (.sipush 10000, 3) := by decide +kernel
theorem dX6_redraw_10 : decode cX6_redraw 10 = .ok (.invokevirtual 131, 3) := by decide +kernel
theorem dX6_redraw_13 : decode cX6_redraw 13 = .ok (.putfield 25, 3) := by decide +kernel
theorem dX6_redraw_16 : decode cX6_redraw 16 = .ok (.aload_n 0, 1) := by decide +kernel
theorem dX6_redraw_17 : decode cX6_redraw 17 = .ok (.getfield 10, 3) := by decide +kernel
theorem dX6_redraw_20 : decode cX6_redraw 20 = .ok (.aload_n 0, 1) := by decide +kernel
theorem dX6_redraw_21 : decode cX6_redraw 21 = .ok (.getfield 25, 3) := by decide +kernel
theorem dX6_redraw_24 : decode cX6_redraw 24 = .ok (.invokevirtual 152, 3) := by decide +kernel
theorem dX6_redraw_27 : decode cX6_redraw 27 = .ok (.iload_n 1, 1) := by decide +kernel
theorem dX6_redraw_28 : decode cX6_redraw 28 = .ok (.if_icmp .ne 7, 3) := by decide +kernel
theorem dX6_redraw_31 : decode cX6_redraw 31 = .ok (.iconst 1, 1) := by decide +kernel
theorem dX6_redraw_32 : decode cX6_redraw 32 = .ok (.goto 4, 3) := by decide +kernel
theorem dX6_redraw_35 : decode cX6_redraw 35 = .ok (.iconst 0, 1) := by decide +kernel
theorem dX6_redraw_36 : decode cX6_redraw 36 = .ok (.ireturn, 1) := by decide +kernel
set_option maxRecDepth 20000 in
theorem ggX6_relation_X6_any : GoodIn wsX6_relation wsX6_any := goodIn_r _ [8, 9, 10, 11, 12, 13, 14, 15, 16, 17, 50, 51, 52, 53, 54, 55, 56, 57] (by decide +kernel) (by decide +kernel)
set_option maxRecDepth 20000 in
theorem gX6_relation_X6_any : GoodIn wsX6_relation (wsV RX6 131 RX6 yX6_any wsX6_any) := goodIn_app (goodIn_of _ (by decide +kernel)) ggX6_relation_X6_any
set_option maxRecDepth 20000 in
theorem ggX6_relation_X6_with : GoodIn wsX6_relation wsX6_with := goodIn_r _ [20, 21, 22, 23, 24, 25] (by decide +kernel) (by decide +kernel)
set_option maxRecDepth 20000 in
theorem gX6_relation_X6_with : GoodIn wsX6_relation (va_wsS RX6 100 yX6_with wsX6_with) := goodIn_app (goodIn_of _ (by decide +kernel)) ggX6_relation_X6_with
set_option maxRecDepth 20000 in
theorem ggX6_relation_X5_relation : GoodIn wsX6_relation wsX5_relation := goodIn_ca (goodIn_ca (goodIn_ca (goodIn_r _ [30, 31, 32, 33, 34, 35, 36, 37, 29, 38, 39, 40, 41, 42, 43, 44, 45, 46, 47, 48, 49, 58, 59, 60, 61, 62, 63, 64, 65, 66] (by decide +kernel) (by decide +kernel)) (goodIn_sub (fun _ h => List.mem_cons_of_mem _ (List.mem_append_left _ (List.mem_append_left _ (List.mem_append_right _ h)))) (by decide +kernel))) (goodIn_sub (fun _ h => List.mem_cons_of_mem _ (List.mem_append_left _ (List.mem_append_right _ h))) (by decide +kernel))) (goodIn_sub (fun _ h => List.mem_cons_of_mem _ (List.mem_append_right _ h)) (by decide +kernel))
set_option maxRecDepth 20000 in
theorem gX6_relation_X5_relation : GoodIn wsX6_relation (wsV RX6 154 RX5 yX5_relation wsX5_relation) := goodIn_app (goodIn_of _ (by decide +kernel)) ggX6_relation_X5_relation
theorem dX6_relation_0 : decode cX6_relation 0 = .ok (.aload_n 0, 1) := by decide +kernel
theorem dX6_relation_1 : decode cX6_relation 1 = .ok (.getfield 32, 3) := by decide +kernel
theorem dX6_relation_4 : decode cX6_relation 4 = .ok (.arraylength, 1) := by decide +kernel
theorem dX6_relation_5 : decode cX6_relation 5 = .ok (.bipush 6, 2) := by decide +kernel
theorem dX6_relation_7 : decode cX6_relation 7 = .ok (.if_icmp .ne 5, 3) := by decide +kernel
theorem dX6_relation_10 : decode cX6_relation 10 = .ok (.iconst 1, 1) := by decide +kernel
theorem dX6_relation_11 : decode cX6_relation 11 = .ok (.ireturn, 1) := by decide +kernel
theorem dX6_relation_12 : decode cX6_relation 12 = .ok (.aload_n 0, 1) := by decide +kernel
theorem dX6_relation_13 : decode cX6_relation 13 = .ok (.iconst 4, 1) := by decide +kernel
theorem dX6_relation_14 : decode cX6_relation 14 = .ok (.invokevirtual 131, 3) := by decide +kernel
theorem dX6_relation_17 : decode cX6_relation 17 = .ok (.istore_n 1, 1) := by decide +kernel
theorem dX6_relation_18 : decode cX6_relation 18 = .ok (.iconst 3, 1) := by decide +kernel
theorem dX6_relation_19 : decode cX6_relation 19 = .ok (.newarray .int, 2) := by decide +kernel
theorem dX6_relation_21 : decode cX6_relation 21 = .ok (.dup, 1) := by decide +kernel
theorem dX6_relation_22 : decode cX6_relation 22 = .ok (.iconst 0, 1) := by decide +kernel
theorem dX6_relation_23 : decode cX6_relation 23 = .ok (.aload_n 0, 1) := by decide +kernel
theorem dX6_relation_24 : decode cX6_relation 24 = .ok (.iconst 2, 1) := by decide +kernel
theorem dX6_relation_25 : decode cX6_relation 25 = .ok (.invokevirtual 131, 3) := by decide +kernel
theorem dX6_relation_28 : decode cX6_relation 28 = .ok (.iastore, 1) := by decide +kernel
theorem dX6_relation_29 : decode cX6_relation 29 = .ok (.dup, 1) := by decide +kernel
theorem dX6_relation_30 : decode cX6_relation 30 = .ok (.iconst 1, 1) := by decide +kernel
theorem dX6_relation_31 : decode cX6_relation 31 = .ok (.iload_n 1, 1) := by decide +kernel
theorem dX6_relation_32 : decode cX6_relation 32 = .ok (.iastore, 1) := by decide +kernel
theorem dX6_relation_33 : decode cX6_relation 33 = .ok (.dup, 1) := by decide +kernel
theorem dX6_relation_34 : decode cX6_relation 34 = .ok (.iconst 2, 1) := by decide +kernel
theorem dX6_relation_35 : decode cX6_relation 35 = .ok (.iload_n 1, 1) := by decide +kernel
theorem dX6_relation_36 : decode cX6_relation 36 = .ok (.iconst 1, 1) := by decide +kernel
theorem dX6_relation_37 : decode cX6_relation 37 = .ok (.iadd, 1) := by decide +kernel
theorem dX6_relation_38 : decode cX6_relation 38 = .ok (.aload_n 0, 1) := by decide +kernel
theorem dX6_relation_39 : decode cX6_relation 39 = .ok (.iconst 3, 1) := by decide +kernel
theorem dX6_relation_40 : decode cX6_relation 40 = .ok (.invokevirtual 131, 3) := by decide +kernel
theorem dX6_relation_43 : decode cX6_relation 43 = .ok (.iadd, 1) := by decide +kernel
theorem dX6_relation_44 : decode cX6_relation 44 = .ok (.iconst 4, 1) := by decide +kernel
theorem dX6_relation_45 : decode cX6_relation 45 = .ok (.irem, 1) := by decide +kernel
theorem dX6_relation_46 : decode cX6_relation 46 = .ok (.iastore, 1) := by decide +kernel
theorem dX6_relation_47 : decode cX6_relation 47 = .ok (.astore_n 2, 1) := by decide +kernel
theorem dX6_relation_48 : decode cX6_relation 48 = .ok (.aload_n 0, 1) := by decide +kernel
theorem dX6_relation_49 : decode cX6_relation 49 = .ok (.aload_n 0, 1) := by decide +kernel
theorem dX6_relation_50 : decode cX6_relation 50 = .ok (.getfield 32, 3) := by decide +kernel
theorem dX6_relation_53 : decode cX6_relation 53 = .ok (.aload_n 2, 1) := by decide +kernel
theorem dX6_relation_54 : decode cX6_relation 54 = .ok (.invokestatic 100, 3) := by decide +kernel
theorem dX6_relation_57 : decode cX6_relation 57 = .ok (.putfield 32, 3) := by decide +kernel
theorem dX6_relation_60 : decode cX6_relation 60 = .ok (.aload_n 0, 1) := by decide +kernel
theorem dX6_relation_61 : decode cX6_relation 61 = .ok (.getfield 10, 3) := by decide +kernel
theorem dX6_relation_64 : decode cX6_relation 64 = .ok (.aload_n 2, 1) := by decide +kernel
theorem dX6_relation_65 : decode cX6_relation 65 = .ok (.iconst 0, 1) := by decide +kernel
theorem dX6_relation_66 : decode cX6_relation 66 = .ok (.iaload, 1) := by decide +kernel
theorem dX6_relation_67 : decode cX6_relation 67 = .ok (.aload_n 2, 1) := by decide +kernel
theorem dX6_relation_68 : decode cX6_relation 68 = .ok (.iconst 1, 1) := by decide +kernel
theorem dX6_relation_69 : decode cX6_relation 69 = .ok (.iaload, 1) := by decide +kernel
theorem dX6_relation_70 : decode cX6_relation 70 = .ok (.aload_n 2, 1) := by decide +kernel
theorem dX6_relation_71 : decode cX6_relation 71 = .ok (.iconst 2, 1) := by decide +kernel
theorem dX6_relation_72 : decode cX6_relation 72 = .ok (.iaload, 1) := by decide +kernel
theorem dX6_relation_73 : decode cX6_relation 73 = .ok (.invokevirtual 154, 3) := by decide +kernel
theorem dX6_relation_76 : decode cX6_relation 76 = .ok (.aload_n 0, 1) := by decide +kernel
theorem dX6_relation_77 : decode cX6_relation 77 = .ok (.getfield 32, 3) := by decide +kernel
theorem dX6_relation_80 : decode cX6_relation 80 = .ok (.arraylength, 1) := by decide +kernel
theorem dX6_relation_81 : decode cX6_relation 81 = .ok (.iconst 1, 1) := by decide +kernel
theorem dX6_relation_82 : decode cX6_relation 82 = .ok (.isub, 1) := by decide +kernel
theorem dX6_relation_83 : decode cX6_relation 83 = .ok (.if_icmp .ne 7, 3) := by decide +kernel
theorem dX6_relation_86 : decode cX6_relation 86 = .ok (.iconst 1, 1) := by decide +kernel
theorem dX6_relation_87 : decode cX6_relation 87 = .ok (.goto 4, 3) := by decide +kernel
theorem dX6_relation_90 : decode cX6_relation 90 = .ok (.iconst 0, 1) := by decide +kernel
theorem dX6_relation_91 : decode cX6_relation 91 = .ok (.ireturn, 1) := by decide +kernel
set_option maxRecDepth 20000 in
theorem ggX6_found_X6_ask : GoodIn wsX6_found wsX6_ask := goodIn_ca (goodIn_ca (goodIn_r _ [5, 6, 7, 8, 9, 10, 4, 11, 12, 13, 14, 15, 16, 17, 18, 19, 20, 21, 22, 23, 24, 25, 26, 27, 28, 29, 30, 31, 32, 33, 34, 35, 36, 37, 38, 39, 40, 41, 42, 43, 44, 45, 46, 47, 48, 49, 50, 51, 52, 53, 54, 55, 56, 57, 58, 59, 60, 61, 62, 63, 64, 65, 66, 67, 68, 69, 70, 71, 72, 73, 74, 75, 76, 77, 78, 79, 80, 81, 82, 83, 84, 85, 86, 87, 88, 89, 90, 91, 92, 93, 94, 95, 96, 97, 98, 99, 100, 101, 102, 103, 104, 105, 106, 107, 108, 109, 110, 111, 112, 113, 114, 115, 116, 117, 118, 119, 120, 121, 122, 123, 124, 125, 126, 127, 128, 129, 130, 131, 132, 133, 134, 135, 136, 137, 138, 139, 140, 141, 142, 143, 144, 145, 146, 147, 148, 149, 150, 151, 152, 153, 154, 155, 156, 157, 158, 159, 160, 161, 162, 163, 164, 165, 166, 167, 168, 169, 170, 171, 172, 173, 174, 175, 176, 177, 178, 179, 180, 309, 310, 311, 312, 313, 314, 315, 316, 317, 318, 319, 320, 321, 322, 323, 324, 325, 326, 327, 328, 329, 330, 331, 332, 333, 334, 335, 336] (by decide +kernel) (by decide +kernel)) (goodIn_sub (fun _ h => List.mem_cons_of_mem _ (List.mem_append_left _ (List.mem_append_left _ (List.mem_append_right _ h)))) (by decide +kernel))) (goodIn_sub (fun _ h => List.mem_cons_of_mem _ (List.mem_append_left _ (List.mem_append_right _ h))) (by decide +kernel))
set_option maxRecDepth 20000 in
theorem gX6_found_X6_ask : GoodIn wsX6_found (wsV RX6 157 RX6 yX6_ask wsX6_ask) := goodIn_app (goodIn_of _ (by decide +kernel)) ggX6_found_X6_ask
set_option maxRecDepth 20000 in
theorem ggX6_found_X6_lead : GoodIn wsX6_found wsX6_lead := goodIn_ca (goodIn_r _ [184, 6, 7, 8, 9, 10, 4, 11, 12, 13, 14, 15, 16, 17, 18, 19, 20, 185, 186, 187, 24, 188, 26, 27, 28, 29, 30, 31, 32, 33, 34, 189, 190, 191, 192, 193, 194, 46, 195, 62, 51, 52, 53, 54, 55, 56, 57, 58, 59, 60, 61, 63, 64, 65, 66, 67, 68, 69, 70, 71, 72, 73, 74, 48, 49, 50, 75, 76, 77, 78, 79, 80, 81, 82, 83, 84, 85, 86, 87, 88, 89, 90, 91, 92, 93, 94, 95, 96, 97, 98, 99, 100, 101, 102, 103, 104, 105, 106, 107, 108, 109, 110, 111, 112, 113, 114, 115, 116, 117, 118, 119, 120, 121, 122, 123, 124, 125, 126, 127, 128, 129, 130, 131, 132, 133, 134, 135, 136, 137, 138, 139, 140, 141, 142, 143, 144, 145, 146, 147, 148, 149, 150, 151, 152, 153, 154, 155, 156, 157, 158, 159, 160, 161, 162, 163, 164, 165, 166, 167, 168, 169, 170, 171, 172, 173, 174, 175, 176, 177, 178, 179, 180, 309, 310, 311, 312, 313, 314, 315, 316, 317, 318, 319, 320, 321, 322, 323, 324, 325, 326, 327, 328, 329, 330, 331, 332, 333, 334, 335, 336] (by decide +kernel) (by decide +kernel)) (goodIn_sub (fun _ h => List.mem_cons_of_mem _ (List.mem_append_left _ (List.mem_append_left _ (List.mem_append_right _ h)))) (by decide +kernel))
set_option maxRecDepth 20000 in
theorem gX6_found_X6_lead : GoodIn wsX6_found (wsV RX6 160 RX6 yX6_lead wsX6_lead) := goodIn_app (goodIn_of _ (by decide +kernel)) ggX6_found_X6_lead
set_option maxRecDepth 20000 in
theorem ggX6_found_X6_bad : GoodIn wsX6_found wsX6_bad := goodIn_ca (goodIn_r _ [199, 6, 7, 8, 9, 10, 4, 11, 12, 13, 14, 15, 16, 17, 18, 19, 20, 200, 201, 202, 24, 203, 26, 27, 28, 29, 30, 31, 32, 33, 34, 204, 205, 206, 46, 207, 61, 51, 52, 53, 54, 55, 56, 57, 58, 59, 60, 62, 63, 64, 65, 66, 67, 68, 69, 70, 71, 72, 73, 74, 48, 49, 50, 75, 76, 77, 78, 79, 80, 81, 82, 83, 84, 85, 86, 87, 88, 89, 90, 91, 92, 93, 94, 95, 96, 97, 98, 99, 100, 101, 102, 103, 104, 105, 106, 107, 108, 109, 110, 111, 112, 113, 114, 115, 116, 117, 118, 119, 120, 121, 122, 123, 124, 125, 126, 127, 128, 129, 130, 131, 132, 133, 134, 135, 136, 137, 138, 139, 140, 141, 142, 143, 144, 145, 146, 147, 148, 149, 150, 151, 152, 153, 154, 155, 156, 157, 158, 159, 160, 161, 162, 163, 164, 165, 166, 167, 168, 169, 170, 171, 172, 173, 174, 175, 176, 177, 178, 179, 180, 309, 310, 311, 312, 313, 314, 315, 316, 317, 318, 319, 320, 321, 322, 323, 324, 325, 326, 327, 328, 329, 330, 331, 332, 333, 334, 335, 336] (by decide +kernel) (by decide +kernel)) (goodIn_sub (fun _ h => List.mem_cons_of_mem _ (List.mem_append_left _ (List.mem_append_left _ (List.mem_append_right _ h)))) (by decide +kernel))
set_option maxRecDepth 20000 in
theorem gX6_found_X6_bad : GoodIn wsX6_found (wsV RX6 162 RX6 yX6_bad wsX6_bad) := goodIn_app (goodIn_of _ (by decide +kernel)) ggX6_found_X6_bad
set_option maxRecDepth 20000 in
theorem ggX6_found_X6_weigh : GoodIn wsX6_found wsX6_weigh := goodIn_ca (goodIn_ca (goodIn_r _ [211, 212, 7, 8, 9, 10, 4, 11, 12, 13, 14, 15, 16, 17, 18, 19, 20, 213, 214, 215, 24, 216, 217, 35, 36, 37, 30, 31, 218, 219, 220, 41, 42, 221, 222, 223, 224, 225, 226, 227, 228, 229, 230, 231, 232, 309, 310, 311, 312, 313, 314, 315, 316, 317, 318, 319, 320, 321, 337, 338, 339, 340] (by decide +kernel) (by decide +kernel)) (goodIn_sub (fun _ h => List.mem_cons_of_mem _ (List.mem_append_left _ (List.mem_append_left _ (List.mem_append_right _ h)))) (by decide +kernel))) (goodIn_sub (fun _ h => List.mem_cons_of_mem _ (List.mem_append_left _ (List.mem_append_right _ h))) (by decide +kernel))
set_option maxRecDepth 20000 in
theorem gX6_found_X6_weigh : GoodIn wsX6_found (wsV RX6 164 RX6 yX6_weigh wsX6_weigh) := goodIn_app (goodIn_of _ (by decide +kernel)) ggX6_found_X6_weigh
set_option maxRecDepth 20000 in
theorem ggX6_found_X6_redraw : GoodIn wsX6_found wsX6_redraw := goodIn_ca (goodIn_r _ [236, 237, 7, 8, 9, 10, 4, 11, 12, 13, 14, 15, 16, 17, 18, 19, 20, 238, 239, 240, 24, 241, 41, 42, 217, 309, 310, 311, 312, 313, 314, 315, 316, 317, 318, 319, 320, 321, 337, 338, 339, 340] (by decide +kernel) (by decide +kernel)) (goodIn_sub (fun _ h => List.mem_cons_of_mem _ (List.mem_append_left _ (List.mem_append_right _ h))) (by decide +kernel))
set_option maxRecDepth 20000 in
theorem gX6_found_X6_redraw : GoodIn wsX6_found (wsV RX6 167 RX6 yX6_redraw wsX6_redraw) := goodIn_app (goodIn_of _ (by decide +kernel)) ggX6_found_X6_redraw
set_option maxRecDepth 20000 in
theorem ggX6_found_X6_relation : GoodIn wsX6_found wsX6_relation := goodIn_ca (goodIn_ca (goodIn_ca (goodIn_r _ [245, 246, 151, 7, 8, 9, 10, 4, 11, 12, 13, 14, 15, 16, 17, 18, 19, 20, 247, 248, 249, 250, 158, 159, 160, 161, 251, 252, 253, 24, 254, 41, 42, 255, 256, 257, 35, 36, 37, 30, 31, 258, 259, 260, 261, 262, 263, 264, 265, 266, 309, 310, 311, 312, 313, 314, 315, 316, 317, 318, 319, 320, 321, 341, 342, 343, 344] (by decide +kernel) (by decide +kernel)) (goodIn_sub (fun _ h => List.mem_cons_of_mem _ (List.mem_append_left _ (List.mem_append_right _ h))) (by decide +kernel))) (goodIn_sub (fun _ h => List.mem_cons_of_mem _ (List.mem_append_right _ h)) (by decide +kernel))) (goodIn_sub (fun _ h => List.mem_cons_of_mem _ (List.mem_append_left _ (List.mem_append_left _ (List.mem_append_right _ h)))) (by decide +kernel))
set_option maxRecDepth 20000 in
theorem gX6_found_X6_relation : GoodIn wsX6_found (wsV RX6 170 RX6 yX6_relation wsX6_relation) := goodIn_app (goodIn_of _ (by decide +kernel)) ggX6_found_X6_relation
set_option maxRecDepth 20000 in
theorem ggX6_found_X6_tasteOne : GoodIn wsX6_found wsX6_tasteOne := goodIn_ca (goodIn_ca (goodIn_r _ [270, 133, 7, 8, 9, 10, 4, 11, 12, 13, 14, 15, 16, 17, 18, 19, 20, 271, 272, 273, 24, 274, 275, 276, 277, 41, 42, 278, 279, 280, 281, 255, 256, 55, 282, 283, 284, 285, 26, 56, 57, 58, 59, 46, 60, 61, 62, 63, 64, 65, 66, 67, 68, 69, 70, 33, 34, 71, 72, 73, 74, 48, 49, 50, 75, 76, 77, 78, 79, 80, 81, 82, 83, 84, 85, 86, 87, 88, 89, 286, 287, 288, 93, 289, 101, 102, 290, 291, 292, 293, 294, 295, 91, 92, 94, 95, 96, 109, 110, 111, 112, 113, 114, 115, 116, 117, 107, 108, 118, 119, 120, 121, 296, 297, 298, 299, 300, 301, 302, 303, 304, 151, 305, 306, 307, 308, 134, 135, 136, 137, 138, 139, 140, 141, 142, 143, 144, 145, 146, 147, 148, 149, 150, 6, 152, 153, 154, 155, 156, 157, 158, 159, 160, 161, 162, 163, 164, 165, 166, 167, 168, 169, 170, 171, 172, 247, 248, 249, 250, 173, 174, 175, 176, 309, 310, 311, 312, 313, 314, 315, 316, 317, 318, 319, 320, 321, 327, 328, 329, 330, 331, 332, 322, 323, 324, 325, 326, 333, 334, 335, 336] (by decide +kernel) (by decide +kernel)) (goodIn_sub (fun _ h => List.mem_cons_of_mem _ (List.mem_append_left _ (List.mem_append_right _ h))) (by decide +kernel))) (goodIn_sub (fun _ h => List.mem_cons_of_mem _ (List.mem_append_right _ h)) (by decide +kernel))
set_option maxRecDepth 20000 in
theorem gX6_found_X6_tasteOne : GoodIn wsX6_found (wsV RX6 172 RX6 yX6_tasteOne wsX6_tasteOne) := goodIn_app (goodIn_of _ (by decide +kernel)) ggX6_found_X6_tasteOne
theorem dX6_found_0 : decode cX6_found 0 = .ok (.iconst 0, 1) := by decide +kernel
theorem dX6_found_1 : decode cX6_found 1 = .ok (.istore_n 1, 1) := by decide +kernel
theorem dX6_found_2 : decode cX6_found 2 = .ok (.iload_n 1, 1) := by decide +kernel
theorem dX6_found_3 : decode cX6_found 3 = .ok (.bipush 8, 2) := by decide +kernel
theorem dX6_found_5 : decode cX6_found 5 = .ok (.if_icmp .ge 25, 3) := by decide +kernel
theorem dX6_found_8 : decode cX6_found 8 = .ok (.aload_n 0, 1) := by decide +kernel
theorem dX6_found_9 : decode cX6_found 9 = .ok (.invokevirtual 157, 3) := by decide +kernel
theorem dX6_found_12 : decode cX6_found 12 = .ok (.ifCond .eq 10, 3) := by decide +kernel
theorem dX6_found_15 : decode cX6_found 15 = .ok (.aload_n 0, 1) := by decide +kernel
theorem dX6_found_16 : decode cX6_found 16 = .ok (.invokevirtual 160, 3) := by decide +kernel
theorem dX6_found_19 : decode cX6_found 19 = .ok (.ifCond .ne 5, 3) := by decide +kernel
theorem dX6_found_22 : decode cX6_found 22 = .ok (.iconst 0, 1) := by decide +kernel
theorem dX6_found_23 : decode cX6_found 23 = .ok (.ireturn, 1) := by decide +kernel
theorem dX6_found_24 : decode cX6_found 24 = .ok (.iinc 1 1, 3) := by decide +kernel
theorem dX6_found_27 : decode cX6_found 27 = .ok (.goto (-25), 3) := by decide +kernel
theorem dX6_found_30 : decode cX6_found 30 = .ok (.aload_n 0, 1) := by decide +kernel
theorem dX6_found_31 : decode cX6_found 31 = .ok (.invokevirtual 162, 3) := by decide +kernel
theorem dX6_found_34 : decode cX6_found 34 = .ok (.ifCond .eq 38, 3) := by decide +kernel
theorem dX6_found_37 : decode cX6_found 37 = .ok (.aload_n 0, 1) := by decide +kernel
theorem dX6_found_38 : decode cX6_found 38 = .ok (.invokevirtual 162, 3) := by decide +kernel
theorem dX6_found_41 : decode cX6_found 41 = .ok (.ifCond .eq 31, 3) := by decide +kernel
theorem dX6_found_44 : decode cX6_found 44 = .ok (.aload_n 0, 1) := by decide +kernel
theorem dX6_found_45 : decode cX6_found 45 = .ok (.invokevirtual 164, 3) := by decide +kernel
theorem dX6_found_48 : decode cX6_found 48 = .ok (.ifCond .eq 24, 3) := by decide +kernel
theorem dX6_found_51 : decode cX6_found 51 = .ok (.aload_n 0, 1) := by decide +kernel
theorem dX6_found_52 : decode cX6_found 52 = .ok (.invokevirtual 167, 3) := by decide +kernel
theorem dX6_found_55 : decode cX6_found 55 = .ok (.ifCond .eq 17, 3) := by decide +kernel
theorem dX6_found_58 : decode cX6_found 58 = .ok (.aload_n 0, 1) := by decide +kernel
theorem dX6_found_59 : decode cX6_found 59 = .ok (.invokevirtual 170, 3) := by decide +kernel
theorem dX6_found_62 : decode cX6_found 62 = .ok (.ifCond .eq 10, 3) := by decide +kernel
theorem dX6_found_65 : decode cX6_found 65 = .ok (.aload_n 0, 1) := by decide +kernel
theorem dX6_found_66 : decode cX6_found 66 = .ok (.invokevirtual 170, 3) := by decide +kernel
theorem dX6_found_69 : decode cX6_found 69 = .ok (.ifCond .ne 5, 3) := by decide +kernel
theorem dX6_found_72 : decode cX6_found 72 = .ok (.iconst 0, 1) := by decide +kernel
theorem dX6_found_73 : decode cX6_found 73 = .ok (.ireturn, 1) := by decide +kernel
theorem dX6_found_74 : decode cX6_found 74 = .ok (.iconst 0, 1) := by decide +kernel
theorem dX6_found_75 : decode cX6_found 75 = .ok (.istore_n 1, 1) := by decide +kernel
theorem dX6_found_76 : decode cX6_found 76 = .ok (.iload_n 1, 1) := by decide +kernel
theorem dX6_found_77 : decode cX6_found 77 = .ok (.bipush 6, 2) := by decide +kernel
theorem dX6_found_79 : decode cX6_found 79 = .ok (.if_icmp .ge 18, 3) := by decide +kernel
theorem dX6_found_82 : decode cX6_found 82 = .ok (.aload_n 0, 1) := by decide +kernel
theorem dX6_found_83 : decode cX6_found 83 = .ok (.invokevirtual 172, 3) := by decide +kernel
theorem dX6_found_86 : decode cX6_found 86 = .ok (.ifCond .ne 5, 3) := by decide +kernel
theorem dX6_found_89 : decode cX6_found 89 = .ok (.iconst 0, 1) := by decide +kernel
theorem dX6_found_90 : decode cX6_found 90 = .ok (.ireturn, 1) := by decide +kernel
theorem dX6_found_91 : decode cX6_found 91 = .ok (.iinc 1 1, 3) := by decide +kernel
theorem dX6_found_94 : decode cX6_found 94 = .ok (.goto (-18), 3) := by decide +kernel
theorem dX6_found_97 : decode cX6_found 97 = .ok (.iconst 1, 1) := by decide +kernel
theorem dX6_found_98 : decode cX6_found 98 = .ok (.ireturn, 1) := by decide +kernel
set_option maxRecDepth 20000 in
theorem ggX6_act_X6_any : GoodIn wsX6_act wsX6_any := goodIn_r _ [5, 6, 7, 8, 9, 10, 11, 12, 13, 14, 362, 363, 364, 365, 366, 367, 368, 369] (by decide +kernel) (by decide +kernel)
set_option maxRecDepth 20000 in
theorem gX6_act_X6_any : GoodIn wsX6_act (wsV RX6 131 RX6 yX6_any wsX6_any) := goodIn_app (goodIn_of _ (by decide +kernel)) ggX6_act_X6_any
set_option maxRecDepth 20000 in
theorem ggX6_act_X6_ask : GoodIn wsX6_act wsX6_ask := goodIn_ca (goodIn_ca (goodIn_r _ [18, 19, 20, 1, 2, 3, 4, 5, 6, 7, 8, 9, 10, 11, 12, 13, 14, 21, 22, 23, 24, 25, 26, 27, 28, 29, 30, 31, 32, 33, 34, 35, 36, 37, 38, 39, 40, 41, 42, 43, 44, 45, 46, 47, 48, 49, 50, 51, 52, 53, 54, 55, 56, 57, 58, 59, 60, 61, 62, 63, 64, 65, 66, 67, 68, 69, 70, 71, 72, 73, 74, 75, 76, 77, 78, 79, 80, 81, 82, 83, 84, 85, 86, 87, 88, 89, 90, 91, 92, 93, 94, 95, 96, 97, 98, 99, 100, 101, 102, 103, 104, 105, 106, 107, 108, 109, 110, 111, 112, 113, 114, 115, 116, 117, 118, 119, 120, 121, 122, 123, 124, 125, 126, 127, 128, 129, 130, 131, 132, 133, 134, 135, 136, 137, 138, 139, 140, 141, 142, 143, 144, 145, 146, 147, 148, 149, 150, 151, 152, 153, 154, 155, 156, 157, 158, 159, 160, 161, 162, 163, 164, 165, 166, 167, 168, 169, 170, 171, 172, 173, 174, 175, 176, 177, 178, 179, 180, 362, 363, 364, 365, 366, 367, 368, 369, 370, 371, 372, 373, 374, 375, 376, 377, 378, 379, 380, 381, 382, 383, 384, 385, 386, 387, 388, 389] (by decide +kernel) (by decide +kernel)) (goodIn_sub (fun _ h => List.mem_cons_of_mem _ (List.mem_append_left _ (List.mem_append_left _ (List.mem_append_right _ h)))) (by decide +kernel))) (goodIn_sub (fun _ h => List.mem_cons_of_mem _ (List.mem_append_left _ (List.mem_append_right _ h))) (by decide +kernel))
set_option maxRecDepth 20000 in
theorem gX6_act_X6_ask : GoodIn wsX6_act (wsV RX6 157 RX6 yX6_ask wsX6_ask) := goodIn_app (goodIn_of _ (by decide +kernel)) ggX6_act_X6_ask
set_option maxRecDepth 20000 in
theorem ggX6_act_X6_lead : GoodIn wsX6_act wsX6_lead := goodIn_ca (goodIn_r _ [184, 19, 20, 1, 2, 3, 4, 5, 6, 7, 8, 9, 10, 11, 12, 13, 14, 185, 186, 187, 24, 188, 26, 27, 28, 29, 30, 31, 32, 33, 34, 189, 190, 191, 192, 193, 194, 46, 195, 62, 51, 52, 53, 54, 55, 56, 57, 58, 59, 60, 61, 63, 64, 65, 66, 67, 68, 69, 70, 71, 72, 73, 74, 48, 49, 50, 75, 76, 77, 78, 79, 80, 81, 82, 83, 84, 85, 86, 87, 88, 89, 90, 91, 92, 93, 94, 95, 96, 97, 98, 99, 100, 101, 102, 103, 104, 105, 106, 107, 108, 109, 110, 111, 112, 113, 114, 115, 116, 117, 118, 119, 120, 121, 122, 123, 124, 125, 126, 127, 128, 129, 130, 131, 132, 133, 134, 135, 136, 137, 138, 139, 140, 141, 142, 143, 144, 145, 146, 147, 148, 149, 150, 151, 152, 153, 154, 155, 156, 157, 158, 159, 160, 161, 162, 163, 164, 165, 166, 167, 168, 169, 170, 171, 172, 173, 174, 175, 176, 177, 178, 179, 180, 362, 363, 364, 365, 366, 367, 368, 369, 370, 371, 372, 373, 374, 375, 376, 377, 378, 379, 380, 381, 382, 383, 384, 385, 386, 387, 388, 389] (by decide +kernel) (by decide +kernel)) (goodIn_sub (fun _ h => List.mem_cons_of_mem _ (List.mem_append_left _ (List.mem_append_left _ (List.mem_append_right _ h)))) (by decide +kernel))
set_option maxRecDepth 20000 in
theorem gX6_act_X6_lead : GoodIn wsX6_act (wsV RX6 160 RX6 yX6_lead wsX6_lead) := goodIn_app (goodIn_of _ (by decide +kernel)) ggX6_act_X6_lead
set_option maxRecDepth 20000 in
theorem ggX6_act_X6_bad : GoodIn wsX6_act wsX6_bad := goodIn_ca (goodIn_r _ [199, 19, 20, 1, 2, 3, 4, 5, 6, 7, 8, 9, 10, 11, 12, 13, 14, 200, 201, 202, 24, 203, 26, 27, 28, 29, 30, 31, 32, 33, 34, 204, 205, 206, 46, 207, 61, 51, 52, 53, 54, 55, 56, 57, 58, 59, 60, 62, 63, 64, 65, 66, 67, 68, 69, 70, 71, 72, 73, 74, 48, 49, 50, 75, 76, 77, 78, 79, 80, 81, 82, 83, 84, 85, 86, 87, 88, 89, 90, 91, 92, 93, 94, 95, 96, 97, 98, 99, 100, 101, 102, 103, 104, 105, 106, 107, 108, 109, 110, 111, 112, 113, 114, 115, 116, 117, 118, 119, 120, 121, 122, 123, 124, 125, 126, 127, 128, 129, 130, 131, 132, 133, 134, 135, 136, 137, 138, 139, 140, 141, 142, 143, 144, 145, 146, 147, 148, 149, 150, 151, 152, 153, 154, 155, 156, 157, 158, 159, 160, 161, 162, 163, 164, 165, 166, 167, 168, 169, 170, 171, 172, 173, 174, 175, 176, 177, 178, 179, 180, 362, 363, 364, 365, 366, 367, 368, 369, 370, 371, 372, 373, 374, 375, 376, 377, 378, 379, 380, 381, 382, 383, 384, 385, 386, 387, 388, 389] (by decide +kernel) (by decide +kernel)) (goodIn_sub (fun _ h => List.mem_cons_of_mem _ (List.mem_append_left _ (List.mem_append_left _ (List.mem_append_right _ h)))) (by decide +kernel))
set_option maxRecDepth 20000 in
theorem gX6_act_X6_bad : GoodIn wsX6_act (wsV RX6 162 RX6 yX6_bad wsX6_bad) := goodIn_app (goodIn_of _ (by decide +kernel)) ggX6_act_X6_bad
set_option maxRecDepth 20000 in
theorem ggX6_act_X6_weigh : GoodIn wsX6_act wsX6_weigh := goodIn_ca (goodIn_ca (goodIn_r _ [211, 212, 20, 1, 2, 3, 4, 5, 6, 7, 8, 9, 10, 11, 12, 13, 14, 213, 214, 215, 24, 216, 217, 35, 36, 37, 30, 31, 218, 219, 220, 41, 42, 221, 222, 223, 224, 225, 226, 227, 228, 229, 230, 231, 232, 362, 363, 364, 365, 366, 367, 368, 369, 370, 371, 372, 373, 374, 390, 391, 392, 393] (by decide +kernel) (by decide +kernel)) (goodIn_sub (fun _ h => List.mem_cons_of_mem _ (List.mem_append_left _ (List.mem_append_left _ (List.mem_append_right _ h)))) (by decide +kernel))) (goodIn_sub (fun _ h => List.mem_cons_of_mem _ (List.mem_append_left _ (List.mem_append_right _ h))) (by decide +kernel))
set_option maxRecDepth 20000 in
theorem gX6_act_X6_weigh : GoodIn wsX6_act (wsV RX6 164 RX6 yX6_weigh wsX6_weigh) := goodIn_app (goodIn_of _ (by decide +kernel)) ggX6_act_X6_weigh
set_option maxRecDepth 20000 in
theorem ggX6_act_X6_redraw : GoodIn wsX6_act wsX6_redraw := goodIn_ca (goodIn_r _ [236, 237, 20, 1, 2, 3, 4, 5, 6, 7, 8, 9, 10, 11, 12, 13, 14, 238, 239, 240, 24, 241, 41, 42, 217, 362, 363, 364, 365, 366, 367, 368, 369, 370, 371, 372, 373, 374, 390, 391, 392, 393] (by decide +kernel) (by decide +kernel)) (goodIn_sub (fun _ h => List.mem_cons_of_mem _ (List.mem_append_left _ (List.mem_append_right _ h))) (by decide +kernel))
set_option maxRecDepth 20000 in
theorem gX6_act_X6_redraw : GoodIn wsX6_act (wsV RX6 167 RX6 yX6_redraw wsX6_redraw) := goodIn_app (goodIn_of _ (by decide +kernel)) ggX6_act_X6_redraw
set_option maxRecDepth 20000 in
theorem ggX6_act_X6_tasteOne : GoodIn wsX6_act wsX6_tasteOne := goodIn_ca (goodIn_ca (goodIn_r _ [245, 133, 20, 1, 2, 3, 4, 5, 6, 7, 8, 9, 10, 11, 12, 13, 14, 246, 247, 248, 24, 249, 250, 251, 252, 41, 42, 253, 254, 255, 256, 257, 258, 55, 259, 260, 261, 262, 26, 56, 57, 58, 59, 46, 60, 61, 62, 63, 64, 65, 66, 67, 68, 69, 70, 33, 34, 71, 72, 73, 74, 48, 49, 50, 75, 76, 77, 78, 79, 80, 81, 82, 83, 84, 85, 86, 87, 88, 89, 263, 264, 265, 93, 266, 101, 102, 267, 268, 269, 270, 271, 272, 91, 92, 94, 95, 96, 109, 110, 111, 112, 113, 114, 115, 116, 117, 107, 108, 118, 119, 120, 121, 273, 274, 275, 276, 277, 278, 279, 280, 281, 151, 282, 283, 284, 285, 134, 135, 136, 137, 138, 139, 140, 141, 142, 143, 144, 145, 146, 147, 148, 149, 150, 19, 152, 153, 154, 155, 156, 157, 158, 159, 160, 161, 162, 163, 164, 165, 166, 167, 168, 169, 170, 171, 172, 286, 287, 288, 289, 173, 174, 175, 176, 362, 363, 364, 365, 366, 367, 368, 369, 370, 371, 372, 373, 374, 380, 381, 382, 383, 384, 385, 375, 376, 377, 378, 379, 386, 387, 388, 389] (by decide +kernel) (by decide +kernel)) (goodIn_sub (fun _ h => List.mem_cons_of_mem _ (List.mem_append_left _ (List.mem_append_right _ h))) (by decide +kernel))) (goodIn_sub (fun _ h => List.mem_cons_of_mem _ (List.mem_append_right _ h)) (by decide +kernel))
set_option maxRecDepth 20000 in
theorem gX6_act_X6_tasteOne : GoodIn wsX6_act (wsV RX6 172 RX6 yX6_tasteOne wsX6_tasteOne) := goodIn_app (goodIn_of _ (by decide +kernel)) ggX6_act_X6_tasteOne
set_option maxRecDepth 20000 in
theorem ggX6_act_X6_mutate : GoodIn wsX6_act wsX6_mutate := goodIn_ca (goodIn_r _ [293, 133, 20, 177, 178, 179, 4, 180, 294, 295, 296, 297, 298, 299, 300, 301, 138, 139, 140, 141, 142, 143, 144, 145, 146, 147, 148, 149, 150, 151, 19, 152, 153, 154, 155, 156, 157, 158, 159, 160, 161, 162, 163, 164, 165, 166, 167, 168, 169, 170, 171, 172, 302, 303, 304, 305, 237, 306, 307, 308, 278, 279, 280, 281, 282, 283, 284, 285, 134, 135, 136, 137, 286, 287, 288, 289, 173, 174, 175, 176, 309, 310, 311, 24, 312, 257, 258, 55, 217, 313, 314, 315, 93, 316, 101, 103, 104, 105, 106, 102, 107, 108, 317, 318, 319, 320, 321, 322, 109, 110, 111, 112, 96, 113, 82, 83, 114, 115, 116, 117, 323, 324, 325, 122, 123, 124, 125, 126, 127, 128, 253, 254, 255, 256, 326, 327, 328, 224, 329, 330, 331, 332, 333, 334, 75, 76, 335, 336, 337, 338, 339, 340, 259, 260, 261, 262, 26, 56, 57, 58, 59, 46, 60, 61, 62, 63, 64, 65, 66, 67, 68, 69, 70, 33, 34, 71, 72, 73, 74, 48, 49, 50, 77, 78, 79, 80, 81, 84, 85, 86, 87, 88, 89, 263, 264, 265, 266, 267, 268, 269, 270, 271, 272, 91, 92, 94, 95, 118, 119, 120, 121, 273, 274, 275, 276, 277, 362, 363, 364, 365, 366, 367, 368, 369, 370, 371, 372, 373, 374, 380, 381, 382, 383, 384, 385, 390, 391, 392, 393, 375, 376, 377, 378, 379, 386, 387, 388, 389] (by decide +kernel) (by decide +kernel)) (goodIn_sub (fun _ h => List.mem_cons_of_mem _ (List.mem_append_right _ h)) (by decide +kernel))
set_option maxRecDepth 20000 in
theorem gX6_act_X6_mutate : GoodIn wsX6_act (wsV RX6 175 RX6 yX6_mutate wsX6_mutate) := goodIn_app (goodIn_of _ (by decide +kernel)) ggX6_act_X6_mutate
set_option maxRecDepth 20000 in
theorem ggX6_act_X6_generate : GoodIn wsX6_act wsX6_generate := goodIn_ca (goodIn_r _ [344, 133, 20, 345, 346, 347, 4, 348, 151, 212, 302, 303, 304, 305, 237, 306, 307, 308, 278, 279, 280, 281, 282, 283, 284, 285, 134, 135, 136, 137, 138, 139, 140, 141, 142, 143, 144, 145, 146, 147, 148, 149, 150, 19, 152, 153, 154, 155, 156, 157, 158, 159, 160, 161, 162, 163, 164, 165, 166, 167, 168, 169, 170, 171, 172, 286, 287, 288, 289, 173, 174, 175, 176, 349, 350, 351, 24, 352, 217, 253, 254, 255, 256, 257, 258, 55, 353, 354, 355, 224, 356, 357, 358, 359, 360, 226, 227, 361, 222, 223, 225, 228, 330, 331, 332, 333, 334, 259, 260, 261, 262, 26, 56, 57, 58, 59, 46, 60, 61, 62, 63, 64, 65, 66, 67, 68, 69, 70, 33, 34, 71, 72, 73, 74, 48, 49, 50, 75, 76, 77, 78, 79, 80, 81, 82, 83, 84, 85, 86, 87, 88, 89, 263, 264, 265, 93, 266, 101, 102, 267, 268, 269, 270, 271, 272, 91, 92, 94, 95, 96, 109, 110, 111, 112, 113, 114, 115, 116, 117, 107, 108, 118, 119, 120, 121, 273, 274, 275, 276, 277, 362, 363, 364, 365, 366, 367, 368, 369, 370, 371, 372, 373, 374, 380, 381, 382, 383, 384, 385, 390, 391, 392, 393, 375, 376, 377, 378, 379, 386, 387, 388, 389] (by decide +kernel) (by decide +kernel)) (goodIn_sub (fun _ h => List.mem_cons_of_mem _ (List.mem_append_right _ h)) (by decide +kernel))
set_option maxRecDepth 20000 in
theorem gX6_act_X6_generate : GoodIn wsX6_act (wsV RX6 177 RX6 yX6_generate wsX6_generate) := goodIn_app (goodIn_of _ (by decide +kernel)) ggX6_act_X6_generate
theorem dX6_act_0 : decode cX6_act 0 = .ok (.aload_n 0, 1) := by decide +kernel
theorem dX6_act_1 : decode cX6_act 1 = .ok (.bipush 12, 2) := by decide +kernel
theorem dX6_act_3 : decode cX6_act 3 = .ok (.invokevirtual 131, 3) := by decide +kernel
theorem dX6_act_6 : decode cX6_act 6 = .ok (.tableswitch 91 0 7 #[46, 51, 56, 61, 81, 81, 86, 86], 46) := by decide +kernel
theorem dX6_act_52 : decode cX6_act 52 = .ok (.aload_n 0, 1) := by decide +kernel
theorem dX6_act_53 : decode cX6_act 53 = .ok (.invokevirtual 157, 3) := by decide +kernel
theorem dX6_act_56 : decode cX6_act 56 = .ok (.ireturn, 1) := by decide +kernel
theorem dX6_act_57 : decode cX6_act 57 = .ok (.aload_n 0, 1) := by decide +kernel
theorem dX6_act_58 : decode cX6_act 58 = .ok (.invokevirtual 160, 3) := by decide +kernel
theorem dX6_act_61 : decode cX6_act 61 = .ok (.ireturn, 1) := by decide +kernel
theorem dX6_act_62 : decode cX6_act 62 = .ok (.aload_n 0, 1) := by decide +kernel
theorem dX6_act_63 : decode cX6_act 63 = .ok (.invokevirtual 162, 3) := by decide +kernel
theorem dX6_act_66 : decode cX6_act 66 = .ok (.ireturn, 1) := by decide +kernel
theorem dX6_act_67 : decode cX6_act 67 = .ok (.aload_n 0, 1) := by decide +kernel
theorem dX6_act_68 : decode cX6_act 68 = .ok (.iconst 2, 1) := by decide +kernel
theorem dX6_act_69 : decode cX6_act 69 = .ok (.invokevirtual 131, 3) := by decide +kernel
theorem dX6_act_72 : decode cX6_act 72 = .ok (.ifCond .ne 10, 3) := by decide +kernel
theorem dX6_act_75 : decode cX6_act 75 = .ok (.aload_n 0, 1) := by decide +kernel
theorem dX6_act_76 : decode cX6_act 76 = .ok (.invokevirtual 164, 3) := by decide +kernel
theorem dX6_act_79 : decode cX6_act 79 = .ok (.goto 7, 3) := by decide +kernel
theorem dX6_act_82 : decode cX6_act 82 = .ok (.aload_n 0, 1) := by decide +kernel
theorem dX6_act_83 : decode cX6_act 83 = .ok (.invokevirtual 167, 3) := by decide +kernel
theorem dX6_act_86 : decode cX6_act 86 = .ok (.ireturn, 1) := by decide +kernel
theorem dX6_act_87 : decode cX6_act 87 = .ok (.aload_n 0, 1) := by decide +kernel
theorem dX6_act_88 : decode cX6_act 88 = .ok (.invokevirtual 172, 3) := by decide +kernel
theorem dX6_act_91 : decode cX6_act 91 = .ok (.ireturn, 1) := by decide +kernel
theorem dX6_act_92 : decode cX6_act 92 = .ok (.aload_n 0, 1) := by decide +kernel
theorem dX6_act_93 : decode cX6_act 93 = .ok (.invokevirtual 175, 3) := by decide +kernel
theorem dX6_act_96 : decode cX6_act 96 = .ok (.ireturn, 1) := by decide +kernel
theorem dX6_act_97 : decode cX6_act 97 = .ok (.aload_n 0, 1) := by decide +kernel
theorem dX6_act_98 : decode cX6_act 98 = .ok (.invokevirtual 177, 3) := by decide +kernel
theorem dX6_act_101 : decode cX6_act 101 = .ok (.ireturn, 1) := by decide +kernel
theorem dJ6_numberOfTrailingZeros_0f7a4_0 : decode cJ6_numberOfTrailingZeros_0f7a4 0 = .ok (.iload_n 0, 1) := by decide +kernel
theorem dJ6_numberOfTrailingZeros_0f7a4_1 : decode cJ6_numberOfTrailingZeros_0f7a4 1 = .ok (.iconst (-1), 1) := by decide +kernel
theorem dJ6_numberOfTrailingZeros_0f7a4_2 : decode cJ6_numberOfTrailingZeros_0f7a4 2 = .ok (.ixor, 1) := by decide +kernel
theorem dJ6_numberOfTrailingZeros_0f7a4_3 : decode cJ6_numberOfTrailingZeros_0f7a4 3 = .ok (.iload_n 0, 1) := by decide +kernel
theorem dJ6_numberOfTrailingZeros_0f7a4_4 : decode cJ6_numberOfTrailingZeros_0f7a4 4 = .ok (.iconst 1, 1) := by decide +kernel
theorem dJ6_numberOfTrailingZeros_0f7a4_5 : decode cJ6_numberOfTrailingZeros_0f7a4 5 = .ok (.isub, 1) := by decide +kernel
theorem dJ6_numberOfTrailingZeros_0f7a4_6 : decode cJ6_numberOfTrailingZeros_0f7a4 6 = .ok (.iand, 1) := by decide +kernel
theorem dJ6_numberOfTrailingZeros_0f7a4_7 : decode cJ6_numberOfTrailingZeros_0f7a4 7 = .ok (.istore_n 0, 1) := by decide +kernel
theorem dJ6_numberOfTrailingZeros_0f7a4_8 : decode cJ6_numberOfTrailingZeros_0f7a4 8 = .ok (.iload_n 0, 1) := by decide +kernel
theorem dJ6_numberOfTrailingZeros_0f7a4_9 : decode cJ6_numberOfTrailingZeros_0f7a4 9 = .ok (.ifCond .gt 8, 3) := by decide +kernel
theorem dJ6_numberOfTrailingZeros_0f7a4_12 : decode cJ6_numberOfTrailingZeros_0f7a4 12 = .ok (.iload_n 0, 1) := by decide +kernel
theorem dJ6_numberOfTrailingZeros_0f7a4_13 : decode cJ6_numberOfTrailingZeros_0f7a4 13 = .ok (.bipush 32, 2) := by decide +kernel
theorem dJ6_numberOfTrailingZeros_0f7a4_15 : decode cJ6_numberOfTrailingZeros_0f7a4 15 = .ok (.iand, 1) := by decide +kernel
theorem dJ6_numberOfTrailingZeros_0f7a4_16 : decode cJ6_numberOfTrailingZeros_0f7a4 16 = .ok (.ireturn, 1) := by decide +kernel
theorem dJ6_numberOfTrailingZeros_0f7a4_17 : decode cJ6_numberOfTrailingZeros_0f7a4 17 = .ok (.iconst 1, 1) := by decide +kernel
theorem dJ6_numberOfTrailingZeros_0f7a4_18 : decode cJ6_numberOfTrailingZeros_0f7a4 18 = .ok (.istore_n 1, 1) := by decide +kernel
theorem dJ6_numberOfTrailingZeros_0f7a4_19 : decode cJ6_numberOfTrailingZeros_0f7a4 19 = .ok (.iload_n 0, 1) := by decide +kernel
theorem dJ6_numberOfTrailingZeros_0f7a4_20 : decode cJ6_numberOfTrailingZeros_0f7a4 20 = .ok (.ldc_w 264, 3) := by decide +kernel
theorem dJ6_numberOfTrailingZeros_0f7a4_23 : decode cJ6_numberOfTrailingZeros_0f7a4 23 = .ok (.if_icmp .le 11, 3) := by decide +kernel
theorem dJ6_numberOfTrailingZeros_0f7a4_26 : decode cJ6_numberOfTrailingZeros_0f7a4 26 = .ok (.iinc 1 16, 3) := by decide +kernel
theorem dJ6_numberOfTrailingZeros_0f7a4_29 : decode cJ6_numberOfTrailingZeros_0f7a4 29 = .ok (.iload_n 0, 1) := by decide +kernel
theorem dJ6_numberOfTrailingZeros_0f7a4_30 : decode cJ6_numberOfTrailingZeros_0f7a4 30 = .ok (.bipush 16, 2) := by decide +kernel
theorem dJ6_numberOfTrailingZeros_0f7a4_32 : decode cJ6_numberOfTrailingZeros_0f7a4 32 = .ok (.iushr, 1) := by decide +kernel
theorem dJ6_numberOfTrailingZeros_0f7a4_33 : decode cJ6_numberOfTrailingZeros_0f7a4 33 = .ok (.istore_n 0, 1) := by decide +kernel
theorem dJ6_numberOfTrailingZeros_0f7a4_34 : decode cJ6_numberOfTrailingZeros_0f7a4 34 = .ok (.iload_n 0, 1) := by decide +kernel
theorem dJ6_numberOfTrailingZeros_0f7a4_35 : decode cJ6_numberOfTrailingZeros_0f7a4 35 = .ok (.sipush 256, 3) := by decide +kernel
theorem dJ6_numberOfTrailingZeros_0f7a4_38 : decode cJ6_numberOfTrailingZeros_0f7a4 38 = .ok (.if_icmp .le 11, 3) := by decide +kernel
theorem dJ6_numberOfTrailingZeros_0f7a4_41 : decode cJ6_numberOfTrailingZeros_0f7a4 41 = .ok (.iinc 1 8, 3) := by decide +kernel
theorem dJ6_numberOfTrailingZeros_0f7a4_44 : decode cJ6_numberOfTrailingZeros_0f7a4 44 = .ok (.iload_n 0, 1) := by decide +kernel
theorem dJ6_numberOfTrailingZeros_0f7a4_45 : decode cJ6_numberOfTrailingZeros_0f7a4 45 = .ok (.bipush 8, 2) := by decide +kernel
theorem dJ6_numberOfTrailingZeros_0f7a4_47 : decode cJ6_numberOfTrailingZeros_0f7a4 47 = .ok (.iushr, 1) := by decide +kernel
theorem dJ6_numberOfTrailingZeros_0f7a4_48 : decode cJ6_numberOfTrailingZeros_0f7a4 48 = .ok (.istore_n 0, 1) := by decide +kernel
theorem dJ6_numberOfTrailingZeros_0f7a4_49 : decode cJ6_numberOfTrailingZeros_0f7a4 49 = .ok (.iload_n 0, 1) := by decide +kernel
theorem dJ6_numberOfTrailingZeros_0f7a4_50 : decode cJ6_numberOfTrailingZeros_0f7a4 50 = .ok (.bipush 16, 2) := by decide +kernel
theorem dJ6_numberOfTrailingZeros_0f7a4_52 : decode cJ6_numberOfTrailingZeros_0f7a4 52 = .ok (.if_icmp .le 10, 3) := by decide +kernel
theorem dJ6_numberOfTrailingZeros_0f7a4_55 : decode cJ6_numberOfTrailingZeros_0f7a4 55 = .ok (.iinc 1 4, 3) := by decide +kernel
theorem dJ6_numberOfTrailingZeros_0f7a4_58 : decode cJ6_numberOfTrailingZeros_0f7a4 58 = .ok (.iload_n 0, 1) := by decide +kernel
theorem dJ6_numberOfTrailingZeros_0f7a4_59 : decode cJ6_numberOfTrailingZeros_0f7a4 59 = .ok (.iconst 4, 1) := by decide +kernel
theorem dJ6_numberOfTrailingZeros_0f7a4_60 : decode cJ6_numberOfTrailingZeros_0f7a4 60 = .ok (.iushr, 1) := by decide +kernel
theorem dJ6_numberOfTrailingZeros_0f7a4_61 : decode cJ6_numberOfTrailingZeros_0f7a4 61 = .ok (.istore_n 0, 1) := by decide +kernel
theorem dJ6_numberOfTrailingZeros_0f7a4_62 : decode cJ6_numberOfTrailingZeros_0f7a4 62 = .ok (.iload_n 0, 1) := by decide +kernel
theorem dJ6_numberOfTrailingZeros_0f7a4_63 : decode cJ6_numberOfTrailingZeros_0f7a4 63 = .ok (.iconst 4, 1) := by decide +kernel
theorem dJ6_numberOfTrailingZeros_0f7a4_64 : decode cJ6_numberOfTrailingZeros_0f7a4 64 = .ok (.if_icmp .le 10, 3) := by decide +kernel
theorem dJ6_numberOfTrailingZeros_0f7a4_67 : decode cJ6_numberOfTrailingZeros_0f7a4 67 = .ok (.iinc 1 2, 3) := by decide +kernel
theorem dJ6_numberOfTrailingZeros_0f7a4_70 : decode cJ6_numberOfTrailingZeros_0f7a4 70 = .ok (.iload_n 0, 1) := by decide +kernel
theorem dJ6_numberOfTrailingZeros_0f7a4_71 : decode cJ6_numberOfTrailingZeros_0f7a4 71 = .ok (.iconst 2, 1) := by decide +kernel
theorem dJ6_numberOfTrailingZeros_0f7a4_72 : decode cJ6_numberOfTrailingZeros_0f7a4 72 = .ok (.iushr, 1) := by decide +kernel
theorem dJ6_numberOfTrailingZeros_0f7a4_73 : decode cJ6_numberOfTrailingZeros_0f7a4 73 = .ok (.istore_n 0, 1) := by decide +kernel
theorem dJ6_numberOfTrailingZeros_0f7a4_74 : decode cJ6_numberOfTrailingZeros_0f7a4 74 = .ok (.iload_n 1, 1) := by decide +kernel
theorem dJ6_numberOfTrailingZeros_0f7a4_75 : decode cJ6_numberOfTrailingZeros_0f7a4 75 = .ok (.iload_n 0, 1) := by decide +kernel
theorem dJ6_numberOfTrailingZeros_0f7a4_76 : decode cJ6_numberOfTrailingZeros_0f7a4 76 = .ok (.iconst 1, 1) := by decide +kernel
theorem dJ6_numberOfTrailingZeros_0f7a4_77 : decode cJ6_numberOfTrailingZeros_0f7a4 77 = .ok (.iushr, 1) := by decide +kernel
theorem dJ6_numberOfTrailingZeros_0f7a4_78 : decode cJ6_numberOfTrailingZeros_0f7a4 78 = .ok (.iadd, 1) := by decide +kernel
theorem dJ6_numberOfTrailingZeros_0f7a4_79 : decode cJ6_numberOfTrailingZeros_0f7a4 79 = .ok (.ireturn, 1) := by decide +kernel
set_option maxRecDepth 20000 in
theorem ggJ13_numberOfTrailingZeros_95d88_J6_numberOfTrailingZeros_0f7a4 : GoodIn wsJ13_numberOfTrailingZeros_95d88 wsJ6_numberOfTrailingZeros_0f7a4 := goodIn_r _ [4, 5] (by decide +kernel) (by decide +kernel)
set_option maxRecDepth 20000 in
theorem gJ13_numberOfTrailingZeros_95d88_J6_numberOfTrailingZeros_0f7a4 : GoodIn wsJ13_numberOfTrailingZeros_95d88 (va_wsS RJ13 311 yJ6_numberOfTrailingZeros_0f7a4 wsJ6_numberOfTrailingZeros_0f7a4) := goodIn_app (goodIn_of _ (by decide +kernel)) ggJ13_numberOfTrailingZeros_95d88_J6_numberOfTrailingZeros_0f7a4
theorem dJ13_numberOfTrailingZeros_95d88_0 : decode cJ13_numberOfTrailingZeros_95d88 0 = .ok (.lload_n 0, 1) := by decide +kernel
theorem dJ13_numberOfTrailingZeros_95d88_1 : decode cJ13_numberOfTrailingZeros_95d88 1 = .ok (.l2i, 1) := by decide +kernel
theorem dJ13_numberOfTrailingZeros_95d88_2 : decode cJ13_numberOfTrailingZeros_95d88 2 = .ok (.istore_n 2, 1) := by decide +kernel
theorem dJ13_numberOfTrailingZeros_95d88_3 : decode cJ13_numberOfTrailingZeros_95d88 3 = .ok (.iload_n 2, 1) := by decide +kernel
theorem dJ13_numberOfTrailingZeros_95d88_4 : decode cJ13_numberOfTrailingZeros_95d88 4 = .ok (.ifCond .ne 17, 3) := by decide +kernel
theorem dJ13_numberOfTrailingZeros_95d88_7 : decode cJ13_numberOfTrailingZeros_95d88 7 = .ok (.bipush 32, 2) := by decide +kernel
theorem dJ13_numberOfTrailingZeros_95d88_9 : decode cJ13_numberOfTrailingZeros_95d88 9 = .ok (.lload_n 0, 1) := by decide +kernel
theorem dJ13_numberOfTrailingZeros_95d88_10 : decode cJ13_numberOfTrailingZeros_95d88 10 = .ok (.bipush 32, 2) := by decide +kernel
theorem dJ13_numberOfTrailingZeros_95d88_12 : decode cJ13_numberOfTrailingZeros_95d88 12 = .ok (.lushr, 1) := by decide +kernel
theorem dJ13_numberOfTrailingZeros_95d88_13 : decode cJ13_numberOfTrailingZeros_95d88 13 = .ok (.l2i, 1) := by decide +kernel
theorem dJ13_numberOfTrailingZeros_95d88_14 : decode cJ13_numberOfTrailingZeros_95d88 14 = .ok (.invokestatic 311, 3) := by decide +kernel
theorem dJ13_numberOfTrailingZeros_95d88_17 : decode cJ13_numberOfTrailingZeros_95d88 17 = .ok (.iadd, 1) := by decide +kernel
theorem dJ13_numberOfTrailingZeros_95d88_18 : decode cJ13_numberOfTrailingZeros_95d88 18 = .ok (.goto 7, 3) := by decide +kernel
theorem dJ13_numberOfTrailingZeros_95d88_21 : decode cJ13_numberOfTrailingZeros_95d88 21 = .ok (.iload_n 2, 1) := by decide +kernel
theorem dJ13_numberOfTrailingZeros_95d88_22 : decode cJ13_numberOfTrailingZeros_95d88 22 = .ok (.invokestatic 311, 3) := by decide +kernel
theorem dJ13_numberOfTrailingZeros_95d88_25 : decode cJ13_numberOfTrailingZeros_95d88 25 = .ok (.ireturn, 1) := by decide +kernel
theorem dJ13_bitCount_95d88_0 : decode cJ13_bitCount_95d88 0 = .ok (.lload_n 0, 1) := by decide +kernel
theorem dJ13_bitCount_95d88_1 : decode cJ13_bitCount_95d88 1 = .ok (.lload_n 0, 1) := by decide +kernel
theorem dJ13_bitCount_95d88_2 : decode cJ13_bitCount_95d88 2 = .ok (.iconst 1, 1) := by decide +kernel
theorem dJ13_bitCount_95d88_3 : decode cJ13_bitCount_95d88 3 = .ok (.lushr, 1) := by decide +kernel
theorem dJ13_bitCount_95d88_4 : decode cJ13_bitCount_95d88 4 = .ok (.ldc2_w 314, 3) := by decide +kernel
theorem dJ13_bitCount_95d88_7 : decode cJ13_bitCount_95d88 7 = .ok (.land, 1) := by decide +kernel
theorem dJ13_bitCount_95d88_8 : decode cJ13_bitCount_95d88 8 = .ok (.lsub, 1) := by decide +kernel
theorem dJ13_bitCount_95d88_9 : decode cJ13_bitCount_95d88 9 = .ok (.lstore_n 0, 1) := by decide +kernel
theorem dJ13_bitCount_95d88_10 : decode cJ13_bitCount_95d88 10 = .ok (.lload_n 0, 1) := by decide +kernel
theorem dJ13_bitCount_95d88_11 : decode cJ13_bitCount_95d88 11 = .ok (.ldc2_w 316, 3) := by decide +kernel
theorem dJ13_bitCount_95d88_14 : decode cJ13_bitCount_95d88 14 = .ok (.land, 1) := by decide +kernel
theorem dJ13_bitCount_95d88_15 : decode cJ13_bitCount_95d88 15 = .ok (.lload_n 0, 1) := by decide +kernel
theorem dJ13_bitCount_95d88_16 : decode cJ13_bitCount_95d88 16 = .ok (.iconst 2, 1) := by decide +kernel
theorem dJ13_bitCount_95d88_17 : decode cJ13_bitCount_95d88 17 = .ok (.lushr, 1) := by decide +kernel
theorem dJ13_bitCount_95d88_18 : decode cJ13_bitCount_95d88 18 = .ok (.ldc2_w 316, 3) := by decide +kernel
theorem dJ13_bitCount_95d88_21 : decode cJ13_bitCount_95d88 21 = .ok (.land, 1) := by decide +kernel
theorem dJ13_bitCount_95d88_22 : decode cJ13_bitCount_95d88 22 = .ok (.ladd, 1) := by decide +kernel
theorem dJ13_bitCount_95d88_23 : decode cJ13_bitCount_95d88 23 = .ok (.lstore_n 0, 1) := by decide +kernel
theorem dJ13_bitCount_95d88_24 : decode cJ13_bitCount_95d88 24 = .ok (.lload_n 0, 1) := by decide +kernel
theorem dJ13_bitCount_95d88_25 : decode cJ13_bitCount_95d88 25 = .ok (.lload_n 0, 1) := by decide +kernel
theorem dJ13_bitCount_95d88_26 : decode cJ13_bitCount_95d88 26 = .ok (.iconst 4, 1) := by decide +kernel
theorem dJ13_bitCount_95d88_27 : decode cJ13_bitCount_95d88 27 = .ok (.lushr, 1) := by decide +kernel
theorem dJ13_bitCount_95d88_28 : decode cJ13_bitCount_95d88 28 = .ok (.ladd, 1) := by decide +kernel
theorem dJ13_bitCount_95d88_29 : decode cJ13_bitCount_95d88 29 = .ok (.ldc2_w 318, 3) := by decide +kernel
theorem dJ13_bitCount_95d88_32 : decode cJ13_bitCount_95d88 32 = .ok (.land, 1) := by decide +kernel
theorem dJ13_bitCount_95d88_33 : decode cJ13_bitCount_95d88 33 = .ok (.lstore_n 0, 1) := by decide +kernel
theorem dJ13_bitCount_95d88_34 : decode cJ13_bitCount_95d88 34 = .ok (.lload_n 0, 1) := by decide +kernel
theorem dJ13_bitCount_95d88_35 : decode cJ13_bitCount_95d88 35 = .ok (.lload_n 0, 1) := by decide +kernel
theorem dJ13_bitCount_95d88_36 : decode cJ13_bitCount_95d88 36 = .ok (.bipush 8, 2) := by decide +kernel
theorem dJ13_bitCount_95d88_38 : decode cJ13_bitCount_95d88 38 = .ok (.lushr, 1) := by decide +kernel
theorem dJ13_bitCount_95d88_39 : decode cJ13_bitCount_95d88 39 = .ok (.ladd, 1) := by decide +kernel
theorem dJ13_bitCount_95d88_40 : decode cJ13_bitCount_95d88 40 = .ok (.lstore_n 0, 1) := by decide +kernel
theorem dJ13_bitCount_95d88_41 : decode cJ13_bitCount_95d88 41 = .ok (.lload_n 0, 1) := by decide +kernel
theorem dJ13_bitCount_95d88_42 : decode cJ13_bitCount_95d88 42 = .ok (.lload_n 0, 1) := by decide +kernel
theorem dJ13_bitCount_95d88_43 : decode cJ13_bitCount_95d88 43 = .ok (.bipush 16, 2) := by decide +kernel
theorem dJ13_bitCount_95d88_45 : decode cJ13_bitCount_95d88 45 = .ok (.lushr, 1) := by decide +kernel
theorem dJ13_bitCount_95d88_46 : decode cJ13_bitCount_95d88 46 = .ok (.ladd, 1) := by decide +kernel
theorem dJ13_bitCount_95d88_47 : decode cJ13_bitCount_95d88 47 = .ok (.lstore_n 0, 1) := by decide +kernel
theorem dJ13_bitCount_95d88_48 : decode cJ13_bitCount_95d88 48 = .ok (.lload_n 0, 1) := by decide +kernel
theorem dJ13_bitCount_95d88_49 : decode cJ13_bitCount_95d88 49 = .ok (.lload_n 0, 1) := by decide +kernel
theorem dJ13_bitCount_95d88_50 : decode cJ13_bitCount_95d88 50 = .ok (.bipush 32, 2) := by decide +kernel
theorem dJ13_bitCount_95d88_52 : decode cJ13_bitCount_95d88 52 = .ok (.lushr, 1) := by decide +kernel
theorem dJ13_bitCount_95d88_53 : decode cJ13_bitCount_95d88 53 = .ok (.ladd, 1) := by decide +kernel
theorem dJ13_bitCount_95d88_54 : decode cJ13_bitCount_95d88 54 = .ok (.lstore_n 0, 1) := by decide +kernel
theorem dJ13_bitCount_95d88_55 : decode cJ13_bitCount_95d88 55 = .ok (.lload_n 0, 1) := by decide +kernel
theorem dJ13_bitCount_95d88_56 : decode cJ13_bitCount_95d88 56 = .ok (.l2i, 1) := by decide +kernel
theorem dJ13_bitCount_95d88_57 : decode cJ13_bitCount_95d88 57 = .ok (.bipush 127, 2) := by decide +kernel
theorem dJ13_bitCount_95d88_59 : decode cJ13_bitCount_95d88 59 = .ok (.iand, 1) := by decide +kernel
theorem dJ13_bitCount_95d88_60 : decode cJ13_bitCount_95d88 60 = .ok (.ireturn, 1) := by decide +kernel
theorem dJ9_abs_294c1_0 : decode cJ9_abs_294c1 0 = .ok (.dload_n 0, 1) := by decide +kernel
theorem dJ9_abs_294c1_1 : decode cJ9_abs_294c1 1 = .ok (.invokestatic 79, 3) := by decide +kernel
theorem dJ9_abs_294c1_4 : decode cJ9_abs_294c1 4 = .ok (.ldc2_w 135, 3) := by decide +kernel
theorem dJ9_abs_294c1_7 : decode cJ9_abs_294c1 7 = .ok (.land, 1) := by decide +kernel
theorem dJ9_abs_294c1_8 : decode cJ9_abs_294c1 8 = .ok (.invokestatic 166, 3) := by decide +kernel
theorem dJ9_abs_294c1_11 : decode cJ9_abs_294c1 11 = .ok (.dreturn, 1) := by decide +kernel
theorem dJ9_max_7cf53_0 : decode cJ9_max_7cf53 0 = .ok (.iload_n 0, 1) := by decide +kernel
theorem dJ9_max_7cf53_1 : decode cJ9_max_7cf53 1 = .ok (.iload_n 1, 1) := by decide +kernel
theorem dJ9_max_7cf53_2 : decode cJ9_max_7cf53 2 = .ok (.if_icmp .lt 7, 3) := by decide +kernel
theorem dJ9_max_7cf53_5 : decode cJ9_max_7cf53 5 = .ok (.iload_n 0, 1) := by decide +kernel
theorem dJ9_max_7cf53_6 : decode cJ9_max_7cf53 6 = .ok (.goto 4, 3) := by decide +kernel
theorem dJ9_max_7cf53_9 : decode cJ9_max_7cf53 9 = .ok (.iload_n 1, 1) := by decide +kernel
theorem dJ9_max_7cf53_10 : decode cJ9_max_7cf53 10 = .ok (.ireturn, 1) := by decide +kernel
theorem dJ9_min_7cf53_0 : decode cJ9_min_7cf53 0 = .ok (.iload_n 0, 1) := by decide +kernel
theorem dJ9_min_7cf53_1 : decode cJ9_min_7cf53 1 = .ok (.iload_n 1, 1) := by decide +kernel
theorem dJ9_min_7cf53_2 : decode cJ9_min_7cf53 2 = .ok (.if_icmp .gt 7, 3) := by decide +kernel
theorem dJ9_min_7cf53_5 : decode cJ9_min_7cf53 5 = .ok (.iload_n 0, 1) := by decide +kernel
theorem dJ9_min_7cf53_6 : decode cJ9_min_7cf53 6 = .ok (.goto 4, 3) := by decide +kernel
theorem dJ9_min_7cf53_9 : decode cJ9_min_7cf53 9 = .ok (.iload_n 1, 1) := by decide +kernel
theorem dJ9_min_7cf53_10 : decode cJ9_min_7cf53 10 = .ok (.ireturn, 1) := by decide +kernel
theorem dJ7_fill_53178_0 : decode cJ7_fill_53178 0 = .ok (.iconst 0, 1) := by decide +kernel
theorem dJ7_fill_53178_1 : decode cJ7_fill_53178 1 = .ok (.istore_n 2, 1) := by decide +kernel
theorem dJ7_fill_53178_2 : decode cJ7_fill_53178 2 = .ok (.aload_n 0, 1) := by decide +kernel
theorem dJ7_fill_53178_3 : decode cJ7_fill_53178 3 = .ok (.arraylength, 1) := by decide +kernel
theorem dJ7_fill_53178_4 : decode cJ7_fill_53178 4 = .ok (.istore_n 3, 1) := by decide +kernel
theorem dJ7_fill_53178_5 : decode cJ7_fill_53178 5 = .ok (.iload_n 2, 1) := by decide +kernel
theorem dJ7_fill_53178_6 : decode cJ7_fill_53178 6 = .ok (.iload_n 3, 1) := by decide +kernel
theorem dJ7_fill_53178_7 : decode cJ7_fill_53178 7 = .ok (.if_icmp .ge 13, 3) := by decide +kernel
theorem dJ7_fill_53178_10 : decode cJ7_fill_53178 10 = .ok (.aload_n 0, 1) := by decide +kernel
theorem dJ7_fill_53178_11 : decode cJ7_fill_53178 11 = .ok (.iload_n 2, 1) := by decide +kernel
theorem dJ7_fill_53178_12 : decode cJ7_fill_53178 12 = .ok (.iload_n 1, 1) := by decide +kernel
theorem dJ7_fill_53178_13 : decode cJ7_fill_53178 13 = .ok (.iastore, 1) := by decide +kernel
theorem dJ7_fill_53178_14 : decode cJ7_fill_53178 14 = .ok (.iinc 2 1, 3) := by decide +kernel
theorem dJ7_fill_53178_17 : decode cJ7_fill_53178 17 = .ok (.goto (-12), 3) := by decide +kernel
theorem dJ7_fill_53178_20 : decode cJ7_fill_53178 20 = .ok (.return_, 1) := by decide +kernel
