theorem dX0_init_0 : decode cX0_init 0 = .ok (.aload_n 0, 1) := by decide +kernel
theorem dX0_init_1 : decode cX0_init 1 = .ok (.invokespecial 3, 3) := by decide +kernel
theorem dX0_init_4 : decode cX0_init 4 = .ok (.aload_n 0, 1) := by decide +kernel
theorem dX0_init_5 : decode cX0_init 5 = .ok (.bipush 41, 2) := by decide +kernel
theorem dX0_init_7 : decode cX0_init 7 = .ok (.newarray .int, 2) := by decide +kernel
theorem dX0_init_9 : decode cX0_init 9 = .ok (.putfield 11, 3) := by decide +kernel
theorem dX0_init_12 : decode cX0_init 12 = .ok (.aload_n 0, 1) := by decide +kernel
theorem dX0_init_13 : decode cX0_init 13 = .ok (.bipush 41, 2) := by decide +kernel
theorem dX0_init_15 : decode cX0_init 15 = .ok (.newarray .int, 2) := by decide +kernel
theorem dX0_init_17 : decode cX0_init 17 = .ok (.putfield 15, 3) := by decide +kernel
theorem dX0_init_20 : decode cX0_init 20 = .ok (.aload_n 0, 1) := by decide +kernel
theorem dX0_init_21 : decode cX0_init 21 = .ok (.bipush 41, 2) := by decide +kernel
theorem dX0_init_23 : decode cX0_init 23 = .ok (.newarray .int, 2) := by decide +kernel
theorem dX0_init_25 : decode cX0_init 25 = .ok (.putfield 18, 3) := by decide +kernel
theorem dX0_init_28 : decode cX0_init 28 = .ok (.aload_n 0, 1) := by decide +kernel
theorem dX0_init_29 : decode cX0_init 29 = .ok (.bipush 41, 2) := by decide +kernel
theorem dX0_init_31 : decode cX0_init 31 = .ok (.newarray .long, 2) := by decide +kernel
theorem dX0_init_33 : decode cX0_init 33 = .ok (.putfield 21, 3) := by decide +kernel
theorem dX0_init_36 : decode cX0_init 36 = .ok (.return_, 1) := by decide +kernel
set_option maxRecDepth 20000 in
theorem ggX0_isKept_X5_contains : GoodIn wsX0_isKept wsX5_contains := goodIn_r _ [4] (by decide +kernel) (by decide +kernel)
set_option maxRecDepth 20000 in
theorem gX0_isKept_X5_contains_n29 : GoodIn wsX0_isKept (wsX5_contains) := ggX0_isKept_X5_contains
theorem dX0_isKept_0 : decode cX0_isKept 0 = .ok (.aload_n 0, 1) := by decide +kernel
theorem dX0_isKept_1 : decode cX0_isKept 1 = .ok (.getfield 25, 3) := by decide +kernel
theorem dX0_isKept_4 : decode cX0_isKept 4 = .ok (.iload_n 1, 1) := by decide +kernel
theorem dX0_isKept_5 : decode cX0_isKept 5 = .ok (.invokestatic 29, 3) := by decide +kernel
theorem dX0_isKept_8 : decode cX0_isKept 8 = .ok (.ireturn, 1) := by decide +kernel
set_option maxRecDepth 20000 in
theorem ggX0_allKnown_X5_bit : GoodIn wsX0_allKnown wsX5_bit := goodIn_r _ [4] (by decide +kernel) (by decide +kernel)
set_option maxRecDepth 20000 in
theorem gX0_allKnown_X5_bit_n37 : GoodIn wsX0_allKnown (wsX5_bit) := ggX0_allKnown_X5_bit
theorem dX0_allKnown_0 : decode cX0_allKnown 0 = .ok (.aload_n 0, 1) := by decide +kernel
theorem dX0_allKnown_1 : decode cX0_allKnown 1 = .ok (.getfield 33, 3) := by decide +kernel
theorem dX0_allKnown_4 : decode cX0_allKnown 4 = .ok (.invokestatic 37, 3) := by decide +kernel
theorem dX0_allKnown_7 : decode cX0_allKnown 7 = .ok (.lconst 1, 1) := by decide +kernel
theorem dX0_allKnown_8 : decode cX0_allKnown 8 = .ok (.lsub, 1) := by decide +kernel
theorem dX0_allKnown_9 : decode cX0_allKnown 9 = .ok (.lreturn, 1) := by decide +kernel
theorem dX0_numberOf_0 : decode cX0_numberOf 0 = .ok (.iconst 0, 1) := by decide +kernel
theorem dX0_numberOf_1 : decode cX0_numberOf 1 = .ok (.istore_n 2, 1) := by decide +kernel
theorem dX0_numberOf_2 : decode cX0_numberOf 2 = .ok (.iload_n 2, 1) := by decide +kernel
theorem dX0_numberOf_3 : decode cX0_numberOf 3 = .ok (.aload_n 0, 1) := by decide +kernel
theorem dX0_numberOf_4 : decode cX0_numberOf 4 = .ok (.getfield 33, 3) := by decide +kernel
theorem dX0_numberOf_7 : decode cX0_numberOf 7 = .ok (.if_icmp .ge 27, 3) := by decide +kernel
theorem dX0_numberOf_10 : decode cX0_numberOf 10 = .ok (.iload_n 2, 1) := by decide +kernel
theorem dX0_numberOf_11 : decode cX0_numberOf 11 = .ok (.bipush 40, 2) := by decide +kernel
theorem dX0_numberOf_13 : decode cX0_numberOf 13 = .ok (.if_icmp .ge 21, 3) := by decide +kernel
theorem dX0_numberOf_16 : decode cX0_numberOf 16 = .ok (.aload_n 0, 1) := by decide +kernel
theorem dX0_numberOf_17 : decode cX0_numberOf 17 = .ok (.getfield 11, 3) := by decide +kernel
theorem dX0_numberOf_20 : decode cX0_numberOf 20 = .ok (.iload_n 2, 1) := by decide +kernel
theorem dX0_numberOf_21 : decode cX0_numberOf 21 = .ok (.iaload, 1) := by decide +kernel
theorem dX0_numberOf_22 : decode cX0_numberOf 22 = .ok (.iload_n 1, 1) := by decide +kernel
theorem dX0_numberOf_23 : decode cX0_numberOf 23 = .ok (.if_icmp .ne 5, 3) := by decide +kernel
theorem dX0_numberOf_26 : decode cX0_numberOf 26 = .ok (.iload_n 2, 1) := by decide +kernel
theorem dX0_numberOf_27 : decode cX0_numberOf 27 = .ok (.ireturn, 1) := by decide +kernel
theorem dX0_numberOf_28 : decode cX0_numberOf 28 = .ok (.iinc 2 1, 3) := by decide +kernel
theorem dX0_numberOf_31 : decode cX0_numberOf 31 = .ok (.goto (-29), 3) := by decide +kernel
theorem dX0_numberOf_34 : decode cX0_numberOf 34 = .ok (.iconst (-1), 1) := by decide +kernel
theorem dX0_numberOf_35 : decode cX0_numberOf 35 = .ok (.ireturn, 1) := by decide +kernel
theorem dX0_note_0 : decode cX0_note 0 = .ok (.aload_n 0, 1) := by decide +kernel
theorem dX0_note_1 : decode cX0_note 1 = .ok (.getfield 15, 3) := by decide +kernel
theorem dX0_note_4 : decode cX0_note 4 = .ok (.iload_n 1, 1) := by decide +kernel
theorem dX0_note_5 : decode cX0_note 5 = .ok (.aload_n 2, 1) := by decide +kernel
theorem dX0_note_6 : decode cX0_note 6 = .ok (.getfield 41, 3) := by decide +kernel
theorem dX0_note_9 : decode cX0_note 9 = .ok (.iastore, 1) := by decide +kernel
theorem dX0_note_10 : decode cX0_note 10 = .ok (.aload_n 0, 1) := by decide +kernel
theorem dX0_note_11 : decode cX0_note 11 = .ok (.getfield 21, 3) := by decide +kernel
theorem dX0_note_14 : decode cX0_note 14 = .ok (.iload_n 1, 1) := by decide +kernel
theorem dX0_note_15 : decode cX0_note 15 = .ok (.aload_n 2, 1) := by decide +kernel
theorem dX0_note_16 : decode cX0_note 16 = .ok (.getfield 46, 3) := by decide +kernel
theorem dX0_note_19 : decode cX0_note 19 = .ok (.lastore, 1) := by decide +kernel
theorem dX0_note_20 : decode cX0_note 20 = .ok (.return_, 1) := by decide +kernel
set_option maxRecDepth 20000 in
theorem ggX0_foundBy_X5_contains : GoodIn wsX0_foundBy wsX5_contains := goodIn_r _ [4] (by decide +kernel) (by decide +kernel)
set_option maxRecDepth 20000 in
theorem gX0_foundBy_X5_contains_n29 : GoodIn wsX0_foundBy (wsX5_contains) := ggX0_foundBy_X5_contains
theorem dX0_foundBy_0 : decode cX0_foundBy 0 = .ok (.lconst 0, 1) := by decide +kernel
theorem dX0_foundBy_1 : decode cX0_foundBy 1 = .ok (.lstore_n 3, 1) := by decide +kernel
theorem dX0_foundBy_2 : decode cX0_foundBy 2 = .ok (.iconst 0, 1) := by decide +kernel
theorem dX0_foundBy_3 : decode cX0_foundBy 3 = .ok (.istore 5, 2) := by decide +kernel
theorem dX0_foundBy_5 : decode cX0_foundBy 5 = .ok (.iload 5, 2) := by decide +kernel
theorem dX0_foundBy_7 : decode cX0_foundBy 7 = .ok (.bipush 41, 2) := by decide +kernel
theorem dX0_foundBy_9 : decode cX0_foundBy 9 = .ok (.if_icmp .ge 37, 3) := by decide +kernel
theorem dX0_foundBy_12 : decode cX0_foundBy 12 = .ok (.lload_n 1, 1) := by decide +kernel
theorem dX0_foundBy_13 : decode cX0_foundBy 13 = .ok (.iload 5, 2) := by decide +kernel
theorem dX0_foundBy_15 : decode cX0_foundBy 15 = .ok (.lushr, 1) := by decide +kernel
theorem dX0_foundBy_16 : decode cX0_foundBy 16 = .ok (.lconst 0, 1) := by decide +kernel
theorem dX0_foundBy_17 : decode cX0_foundBy 17 = .ok (.lcmp, 1) := by decide +kernel
theorem dX0_foundBy_18 : decode cX0_foundBy 18 = .ok (.ifCond .eq 28, 3) := by decide +kernel
theorem dX0_foundBy_21 : decode cX0_foundBy 21 = .ok (.lload_n 1, 1) := by decide +kernel
theorem dX0_foundBy_22 : decode cX0_foundBy 22 = .ok (.iload 5, 2) := by decide +kernel
theorem dX0_foundBy_24 : decode cX0_foundBy 24 = .ok (.invokestatic 29, 3) := by decide +kernel
theorem dX0_foundBy_27 : decode cX0_foundBy 27 = .ok (.ifCond .eq 13, 3) := by decide +kernel
theorem dX0_foundBy_30 : decode cX0_foundBy 30 = .ok (.lload_n 3, 1) := by decide +kernel
theorem dX0_foundBy_31 : decode cX0_foundBy 31 = .ok (.aload_n 0, 1) := by decide +kernel
theorem dX0_foundBy_32 : decode cX0_foundBy 32 = .ok (.getfield 21, 3) := by decide +kernel
theorem dX0_foundBy_35 : decode cX0_foundBy 35 = .ok (.iload 5, 2) := by decide +kernel
theorem dX0_foundBy_37 : decode cX0_foundBy 37 = .ok (.laload, 1) := by decide +kernel
theorem dX0_foundBy_38 : decode cX0_foundBy 38 = .ok (.lor, 1) := by decide +kernel
theorem dX0_foundBy_39 : decode cX0_foundBy 39 = .ok (.lstore_n 3, 1) := by decide +kernel
theorem dX0_foundBy_40 : decode cX0_foundBy 40 = .ok (.iinc 5 1, 3) := by decide +kernel
theorem dX0_foundBy_43 : decode cX0_foundBy 43 = .ok (.goto (-38), 3) := by decide +kernel
theorem dX0_foundBy_46 : decode cX0_foundBy 46 = .ok (.lload_n 3, 1) := by decide +kernel
theorem dX0_foundBy_47 : decode cX0_foundBy 47 = .ok (.lreturn, 1) := by decide +kernel
set_option maxRecDepth 20000 in
theorem ggX0_foundAloneBy_X5_bit : GoodIn wsX0_foundAloneBy wsX5_bit := goodIn_r _ [5] (by decide +kernel) (by decide +kernel)
set_option maxRecDepth 20000 in
theorem gX0_foundAloneBy_X5_bit_n37 : GoodIn wsX0_foundAloneBy (wsX5_bit) := ggX0_foundAloneBy_X5_bit
set_option maxRecDepth 20000 in
theorem ggX0_foundAloneBy_X0_foundBy : GoodIn wsX0_foundAloneBy wsX0_foundBy := goodIn_r _ [10, 1, 11, 4, 12, 13, 14, 15, 16, 17, 18] (by decide +kernel) (by decide +kernel)
set_option maxRecDepth 20000 in
theorem gX0_foundAloneBy_X0_foundBy : GoodIn wsX0_foundAloneBy (wsV RX0 50 RX0 yX0_foundBy wsX0_foundBy) := goodIn_app (goodIn_of _ (by decide +kernel)) ggX0_foundAloneBy_X0_foundBy
theorem dX0_foundAloneBy_0 : decode cX0_foundAloneBy 0 = .ok (.aload_n 0, 1) := by decide +kernel
theorem dX0_foundAloneBy_1 : decode cX0_foundAloneBy 1 = .ok (.getfield 21, 3) := by decide +kernel
theorem dX0_foundAloneBy_4 : decode cX0_foundAloneBy 4 = .ok (.iload_n 1, 1) := by decide +kernel
theorem dX0_foundAloneBy_5 : decode cX0_foundAloneBy 5 = .ok (.laload, 1) := by decide +kernel
theorem dX0_foundAloneBy_6 : decode cX0_foundAloneBy 6 = .ok (.aload_n 0, 1) := by decide +kernel
theorem dX0_foundAloneBy_7 : decode cX0_foundAloneBy 7 = .ok (.lload_n 2, 1) := by decide +kernel
theorem dX0_foundAloneBy_8 : decode cX0_foundAloneBy 8 = .ok (.iload_n 1, 1) := by decide +kernel
theorem dX0_foundAloneBy_9 : decode cX0_foundAloneBy 9 = .ok (.invokestatic 37, 3) := by decide +kernel
theorem dX0_foundAloneBy_12 : decode cX0_foundAloneBy 12 = .ok (.ldc2_w 48, 3) := by decide +kernel
theorem dX0_foundAloneBy_15 : decode cX0_foundAloneBy 15 = .ok (.lxor, 1) := by decide +kernel
theorem dX0_foundAloneBy_16 : decode cX0_foundAloneBy 16 = .ok (.land, 1) := by decide +kernel
theorem dX0_foundAloneBy_17 : decode cX0_foundAloneBy 17 = .ok (.invokevirtual 50, 3) := by decide +kernel
theorem dX0_foundAloneBy_20 : decode cX0_foundAloneBy 20 = .ok (.ldc2_w 48, 3) := by decide +kernel
theorem dX0_foundAloneBy_23 : decode cX0_foundAloneBy 23 = .ok (.lxor, 1) := by decide +kernel
theorem dX0_foundAloneBy_24 : decode cX0_foundAloneBy 24 = .ok (.land, 1) := by decide +kernel
theorem dX0_foundAloneBy_25 : decode cX0_foundAloneBy 25 = .ok (.lreturn, 1) := by decide +kernel
set_option maxRecDepth 20000 in
theorem ggX0_coverersOf_X5_contains : GoodIn wsX0_coverersOf wsX5_contains := goodIn_r _ [5] (by decide +kernel) (by decide +kernel)
set_option maxRecDepth 20000 in
theorem gX0_coverersOf_X5_contains_n29 : GoodIn wsX0_coverersOf (wsX5_contains) := ggX0_coverersOf_X5_contains
set_option maxRecDepth 20000 in
theorem ggX0_coverersOf_X5_bit : GoodIn wsX0_coverersOf wsX5_bit := goodIn_r _ [7] (by decide +kernel) (by decide +kernel)
set_option maxRecDepth 20000 in
theorem gX0_coverersOf_X5_bit_n37 : GoodIn wsX0_coverersOf (wsX5_bit) := ggX0_coverersOf_X5_bit
theorem dX0_coverersOf_0 : decode cX0_coverersOf 0 = .ok (.lconst 0, 1) := by decide +kernel
theorem dX0_coverersOf_1 : decode cX0_coverersOf 1 = .ok (.lstore_n 2, 1) := by decide +kernel
theorem dX0_coverersOf_2 : decode cX0_coverersOf 2 = .ok (.iconst 0, 1) := by decide +kernel
theorem dX0_coverersOf_3 : decode cX0_coverersOf 3 = .ok (.istore 4, 2) := by decide +kernel
theorem dX0_coverersOf_5 : decode cX0_coverersOf 5 = .ok (.iload 4, 2) := by decide +kernel
theorem dX0_coverersOf_7 : decode cX0_coverersOf 7 = .ok (.aload_n 0, 1) := by decide +kernel
theorem dX0_coverersOf_8 : decode cX0_coverersOf 8 = .ok (.getfield 33, 3) := by decide +kernel
theorem dX0_coverersOf_11 : decode cX0_coverersOf 11 = .ok (.if_icmp .ge 38, 3) := by decide +kernel
theorem dX0_coverersOf_14 : decode cX0_coverersOf 14 = .ok (.iload 4, 2) := by decide +kernel
theorem dX0_coverersOf_16 : decode cX0_coverersOf 16 = .ok (.bipush 40, 2) := by decide +kernel
theorem dX0_coverersOf_18 : decode cX0_coverersOf 18 = .ok (.if_icmp .ge 31, 3) := by decide +kernel
theorem dX0_coverersOf_21 : decode cX0_coverersOf 21 = .ok (.aload_n 0, 1) := by decide +kernel
theorem dX0_coverersOf_22 : decode cX0_coverersOf 22 = .ok (.getfield 21, 3) := by decide +kernel
theorem dX0_coverersOf_25 : decode cX0_coverersOf 25 = .ok (.iload 4, 2) := by decide +kernel
theorem dX0_coverersOf_27 : decode cX0_coverersOf 27 = .ok (.laload, 1) := by decide +kernel
theorem dX0_coverersOf_28 : decode cX0_coverersOf 28 = .ok (.iload_n 1, 1) := by decide +kernel
theorem dX0_coverersOf_29 : decode cX0_coverersOf 29 = .ok (.invokestatic 29, 3) := by decide +kernel
theorem dX0_coverersOf_32 : decode cX0_coverersOf 32 = .ok (.ifCond .eq 11, 3) := by decide +kernel
theorem dX0_coverersOf_35 : decode cX0_coverersOf 35 = .ok (.lload_n 2, 1) := by decide +kernel
theorem dX0_coverersOf_36 : decode cX0_coverersOf 36 = .ok (.iload 4, 2) := by decide +kernel
theorem dX0_coverersOf_38 : decode cX0_coverersOf 38 = .ok (.invokestatic 37, 3) := by decide +kernel
theorem dX0_coverersOf_41 : decode cX0_coverersOf 41 = .ok (.lor, 1) := by decide +kernel
theorem dX0_coverersOf_42 : decode cX0_coverersOf 42 = .ok (.lstore_n 2, 1) := by decide +kernel
theorem dX0_coverersOf_43 : decode cX0_coverersOf 43 = .ok (.iinc 4 1, 3) := by decide +kernel
theorem dX0_coverersOf_46 : decode cX0_coverersOf 46 = .ok (.goto (-41), 3) := by decide +kernel
theorem dX0_coverersOf_49 : decode cX0_coverersOf 49 = .ok (.lload_n 2, 1) := by decide +kernel
theorem dX0_coverersOf_50 : decode cX0_coverersOf 50 = .ok (.lreturn, 1) := by decide +kernel
set_option maxRecDepth 20000 in
theorem ggX0_energyOf_X0_isKept : GoodIn wsX0_energyOf wsX0_isKept := goodIn_r _ [11, 1, 12, 13, 14, 37, 38, 39, 40, 41, 42] (by decide +kernel) (by decide +kernel)
set_option maxRecDepth 20000 in
theorem gX0_energyOf_X0_isKept : GoodIn wsX0_energyOf (wsV RX0 54 RX0 yX0_isKept wsX0_isKept) := goodIn_app (goodIn_of _ (by decide +kernel)) ggX0_energyOf_X0_isKept
set_option maxRecDepth 20000 in
theorem ggX0_energyOf_X0_foundAloneBy : GoodIn wsX0_energyOf wsX0_foundAloneBy := goodIn_r _ [18, 19, 20, 21, 13, 22, 23, 24, 25, 10, 26, 12, 14, 37, 38, 39, 40, 41, 42] (by decide +kernel) (by decide +kernel)
set_option maxRecDepth 20000 in
theorem gX0_energyOf_X0_foundAloneBy : GoodIn wsX0_energyOf (wsV RX0 58 RX0 yX0_foundAloneBy wsX0_foundAloneBy) := goodIn_app (goodIn_of _ (by decide +kernel)) ggX0_energyOf_X0_foundAloneBy
set_option maxRecDepth 20000 in
theorem ggX0_energyOf_X5_edgesIn : GoodIn wsX0_energyOf wsX5_edgesIn := goodIn_r _ [28, 29, 30, 31, 32, 33, 34, 35, 36] (by decide +kernel) (by decide +kernel)
set_option maxRecDepth 20000 in
theorem gX0_energyOf_X5_edgesIn_n62 : GoodIn wsX0_energyOf (wsX5_edgesIn) := ggX0_energyOf_X5_edgesIn
theorem dX0_energyOf_0 : decode cX0_energyOf 0 = .ok (.aload_n 0, 1) := by decide +kernel
theorem dX0_energyOf_1 : decode cX0_energyOf 1 = .ok (.iload_n 1, 1) := by decide +kernel
theorem dX0_energyOf_2 : decode cX0_energyOf 2 = .ok (.invokevirtual 54, 3) := by decide +kernel
theorem dX0_energyOf_5 : decode cX0_energyOf 5 = .ok (.ifCond .ne 5, 3) := by decide +kernel
theorem dX0_energyOf_8 : decode cX0_energyOf 8 = .ok (.iconst 0, 1) := by decide +kernel
theorem dX0_energyOf_9 : decode cX0_energyOf 9 = .ok (.ireturn, 1) := by decide +kernel
theorem dX0_energyOf_10 : decode cX0_energyOf 10 = .ok (.aload_n 0, 1) := by decide +kernel
theorem dX0_energyOf_11 : decode cX0_energyOf 11 = .ok (.iload_n 1, 1) := by decide +kernel
theorem dX0_energyOf_12 : decode cX0_energyOf 12 = .ok (.aload_n 0, 1) := by decide +kernel
theorem dX0_energyOf_13 : decode cX0_energyOf 13 = .ok (.getfield 25, 3) := by decide +kernel
theorem dX0_energyOf_16 : decode cX0_energyOf 16 = .ok (.invokevirtual 58, 3) := by decide +kernel
theorem dX0_energyOf_19 : decode cX0_energyOf 19 = .ok (.lstore_n 2, 1) := by decide +kernel
theorem dX0_energyOf_20 : decode cX0_energyOf 20 = .ok (.lload_n 2, 1) := by decide +kernel
theorem dX0_energyOf_21 : decode cX0_energyOf 21 = .ok (.bipush 24, 2) := by decide +kernel
theorem dX0_energyOf_23 : decode cX0_energyOf 23 = .ok (.lushr, 1) := by decide +kernel
theorem dX0_energyOf_24 : decode cX0_energyOf 24 = .ok (.lconst 0, 1) := by decide +kernel
theorem dX0_energyOf_25 : decode cX0_energyOf 25 = .ok (.lcmp, 1) := by decide +kernel
theorem dX0_energyOf_26 : decode cX0_energyOf 26 = .ok (.ifCond .eq 7, 3) := by decide +kernel
theorem dX0_energyOf_29 : decode cX0_energyOf 29 = .ok (.iconst 5, 1) := by decide +kernel
theorem dX0_energyOf_30 : decode cX0_energyOf 30 = .ok (.goto 4, 3) := by decide +kernel
theorem dX0_energyOf_33 : decode cX0_energyOf 33 = .ok (.iconst 0, 1) := by decide +kernel
theorem dX0_energyOf_34 : decode cX0_energyOf 34 = .ok (.istore 4, 2) := by decide +kernel
theorem dX0_energyOf_36 : decode cX0_energyOf 36 = .ok (.iconst 0, 1) := by decide +kernel
theorem dX0_energyOf_37 : decode cX0_energyOf 37 = .ok (.iconst 1, 1) := by decide +kernel
theorem dX0_energyOf_38 : decode cX0_energyOf 38 = .ok (.iconst 3, 1) := by decide +kernel
theorem dX0_energyOf_39 : decode cX0_energyOf 39 = .ok (.lload_n 2, 1) := by decide +kernel
theorem dX0_energyOf_40 : decode cX0_energyOf 40 = .ok (.invokestatic 62, 3) := by decide +kernel
theorem dX0_energyOf_43 : decode cX0_energyOf 43 = .ok (.imul, 1) := by decide +kernel
theorem dX0_energyOf_44 : decode cX0_energyOf 44 = .ok (.iadd, 1) := by decide +kernel
theorem dX0_energyOf_45 : decode cX0_energyOf 45 = .ok (.iload 4, 2) := by decide +kernel
theorem dX0_energyOf_47 : decode cX0_energyOf 47 = .ok (.iadd, 1) := by decide +kernel
theorem dX0_energyOf_48 : decode cX0_energyOf 48 = .ok (.aload_n 0, 1) := by decide +kernel
theorem dX0_energyOf_49 : decode cX0_energyOf 49 = .ok (.getfield 18, 3) := by decide +kernel
theorem dX0_energyOf_52 : decode cX0_energyOf 52 = .ok (.iload_n 1, 1) := by decide +kernel
theorem dX0_energyOf_53 : decode cX0_energyOf 53 = .ok (.iaload, 1) := by decide +kernel
theorem dX0_energyOf_54 : decode cX0_energyOf 54 = .ok (.isub, 1) := by decide +kernel
theorem dX0_energyOf_55 : decode cX0_energyOf 55 = .ok (.invokestatic 66, 3) := by decide +kernel
theorem dX0_energyOf_58 : decode cX0_energyOf 58 = .ok (.ireturn, 1) := by decide +kernel
set_option maxRecDepth 20000 in
theorem ggX0_wholeEnergy_X0_energyOf : GoodIn wsX0_wholeEnergy wsX0_energyOf := goodIn_r _ [6, 7, 8, 9, 10, 11, 12, 13, 14, 15, 5, 16, 17, 18, 19, 20, 21, 22, 23, 24, 25, 26, 27, 28, 29, 30, 31, 32, 33, 34, 35, 36, 37, 38, 39, 40, 41, 42, 43, 44, 45, 46, 47] (by decide +kernel) (by decide +kernel)
set_option maxRecDepth 20000 in
theorem gX0_wholeEnergy_X0_energyOf : GoodIn wsX0_wholeEnergy (wsV RX0 72 RX0 yX0_energyOf wsX0_energyOf) := goodIn_app (goodIn_of _ (by decide +kernel)) ggX0_wholeEnergy_X0_energyOf
theorem dX0_wholeEnergy_0 : decode cX0_wholeEnergy 0 = .ok (.iconst 0, 1) := by decide +kernel
theorem dX0_wholeEnergy_1 : decode cX0_wholeEnergy 1 = .ok (.istore_n 1, 1) := by decide +kernel
theorem dX0_wholeEnergy_2 : decode cX0_wholeEnergy 2 = .ok (.iconst 0, 1) := by decide +kernel
theorem dX0_wholeEnergy_3 : decode cX0_wholeEnergy 3 = .ok (.istore_n 2, 1) := by decide +kernel
theorem dX0_wholeEnergy_4 : decode cX0_wholeEnergy 4 = .ok (.iload_n 2, 1) := by decide +kernel
theorem dX0_wholeEnergy_5 : decode cX0_wholeEnergy 5 = .ok (.aload_n 0, 1) := by decide +kernel
theorem dX0_wholeEnergy_6 : decode cX0_wholeEnergy 6 = .ok (.getfield 33, 3) := by decide +kernel
theorem dX0_wholeEnergy_9 : decode cX0_wholeEnergy 9 = .ok (.if_icmp .ge 23, 3) := by decide +kernel
theorem dX0_wholeEnergy_12 : decode cX0_wholeEnergy 12 = .ok (.iload_n 2, 1) := by decide +kernel
theorem dX0_wholeEnergy_13 : decode cX0_wholeEnergy 13 = .ok (.bipush 40, 2) := by decide +kernel
theorem dX0_wholeEnergy_15 : decode cX0_wholeEnergy 15 = .ok (.if_icmp .ge 17, 3) := by decide +kernel
theorem dX0_wholeEnergy_18 : decode cX0_wholeEnergy 18 = .ok (.iload_n 1, 1) := by decide +kernel
theorem dX0_wholeEnergy_19 : decode cX0_wholeEnergy 19 = .ok (.aload_n 0, 1) := by decide +kernel
theorem dX0_wholeEnergy_20 : decode cX0_wholeEnergy 20 = .ok (.iload_n 2, 1) := by decide +kernel
theorem dX0_wholeEnergy_21 : decode cX0_wholeEnergy 21 = .ok (.invokevirtual 72, 3) := by decide +kernel
theorem dX0_wholeEnergy_24 : decode cX0_wholeEnergy 24 = .ok (.iadd, 1) := by decide +kernel
theorem dX0_wholeEnergy_25 : decode cX0_wholeEnergy 25 = .ok (.istore_n 1, 1) := by decide +kernel
theorem dX0_wholeEnergy_26 : decode cX0_wholeEnergy 26 = .ok (.iinc 2 1, 3) := by decide +kernel
theorem dX0_wholeEnergy_29 : decode cX0_wholeEnergy 29 = .ok (.goto (-25), 3) := by decide +kernel
theorem dX0_wholeEnergy_32 : decode cX0_wholeEnergy 32 = .ok (.iload_n 1, 1) := by decide +kernel
theorem dX0_wholeEnergy_33 : decode cX0_wholeEnergy 33 = .ok (.ireturn, 1) := by decide +kernel
set_option maxRecDepth 20000 in
theorem ggX0_mostEnergetic_X0_isKept : GoodIn wsX0_mostEnergetic wsX0_isKept := goodIn_r _ [6, 7, 8, 9, 10, 42, 43, 44, 45, 46, 47] (by decide +kernel) (by decide +kernel)
set_option maxRecDepth 20000 in
theorem gX0_mostEnergetic_X0_isKept : GoodIn wsX0_mostEnergetic (wsV RX0 54 RX0 yX0_isKept wsX0_isKept) := goodIn_app (goodIn_of _ (by decide +kernel)) ggX0_mostEnergetic_X0_isKept
set_option maxRecDepth 20000 in
theorem ggX0_mostEnergetic_X0_energyOf : GoodIn wsX0_mostEnergetic wsX0_energyOf := goodIn_r _ [14, 7, 15, 16, 17, 18, 19, 2, 3, 4, 5, 6, 8, 9, 10, 20, 21, 22, 23, 24, 25, 26, 27, 28, 29, 30, 31, 32, 33, 34, 35, 36, 37, 38, 39, 40, 41, 42, 43, 44, 45, 46, 47] (by decide +kernel) (by decide +kernel)
set_option maxRecDepth 20000 in
theorem gX0_mostEnergetic_X0_energyOf : GoodIn wsX0_mostEnergetic (wsV RX0 72 RX0 yX0_energyOf wsX0_energyOf) := goodIn_app (goodIn_of _ (by decide +kernel)) ggX0_mostEnergetic_X0_energyOf
theorem dX0_mostEnergetic_0 : decode cX0_mostEnergetic 0 = .ok (.iconst (-1), 1) := by decide +kernel
theorem dX0_mostEnergetic_1 : decode cX0_mostEnergetic 1 = .ok (.istore_n 1, 1) := by decide +kernel
theorem dX0_mostEnergetic_2 : decode cX0_mostEnergetic 2 = .ok (.iconst (-1), 1) := by decide +kernel
theorem dX0_mostEnergetic_3 : decode cX0_mostEnergetic 3 = .ok (.istore_n 2, 1) := by decide +kernel
theorem dX0_mostEnergetic_4 : decode cX0_mostEnergetic 4 = .ok (.iconst 0, 1) := by decide +kernel
theorem dX0_mostEnergetic_5 : decode cX0_mostEnergetic 5 = .ok (.istore_n 3, 1) := by decide +kernel
theorem dX0_mostEnergetic_6 : decode cX0_mostEnergetic 6 = .ok (.iload_n 3, 1) := by decide +kernel
theorem dX0_mostEnergetic_7 : decode cX0_mostEnergetic 7 = .ok (.aload_n 0, 1) := by decide +kernel
theorem dX0_mostEnergetic_8 : decode cX0_mostEnergetic 8 = .ok (.getfield 33, 3) := by decide +kernel
theorem dX0_mostEnergetic_11 : decode cX0_mostEnergetic 11 = .ok (.if_icmp .ge 41, 3) := by decide +kernel
theorem dX0_mostEnergetic_14 : decode cX0_mostEnergetic 14 = .ok (.iload_n 3, 1) := by decide +kernel
theorem dX0_mostEnergetic_15 : decode cX0_mostEnergetic 15 = .ok (.bipush 40, 2) := by decide +kernel
theorem dX0_mostEnergetic_17 : decode cX0_mostEnergetic 17 = .ok (.if_icmp .ge 35, 3) := by decide +kernel
theorem dX0_mostEnergetic_20 : decode cX0_mostEnergetic 20 = .ok (.aload_n 0, 1) := by decide +kernel
theorem dX0_mostEnergetic_21 : decode cX0_mostEnergetic 21 = .ok (.iload_n 3, 1) := by decide +kernel
theorem dX0_mostEnergetic_22 : decode cX0_mostEnergetic 22 = .ok (.invokevirtual 54, 3) := by decide +kernel
theorem dX0_mostEnergetic_25 : decode cX0_mostEnergetic 25 = .ok (.ifCond .eq 21, 3) := by decide +kernel
theorem dX0_mostEnergetic_28 : decode cX0_mostEnergetic 28 = .ok (.aload_n 0, 1) := by decide +kernel
theorem dX0_mostEnergetic_29 : decode cX0_mostEnergetic 29 = .ok (.iload_n 3, 1) := by decide +kernel
theorem dX0_mostEnergetic_30 : decode cX0_mostEnergetic 30 = .ok (.invokevirtual 72, 3) := by decide +kernel
theorem dX0_mostEnergetic_33 : decode cX0_mostEnergetic 33 = .ok (.istore 4, 2) := by decide +kernel
theorem dX0_mostEnergetic_35 : decode cX0_mostEnergetic 35 = .ok (.iload 4, 2) := by decide +kernel
theorem dX0_mostEnergetic_37 : decode cX0_mostEnergetic 37 = .ok (.iload_n 2, 1) := by decide +kernel
theorem dX0_mostEnergetic_38 : decode cX0_mostEnergetic 38 = .ok (.if_icmp .le 8, 3) := by decide +kernel
theorem dX0_mostEnergetic_41 : decode cX0_mostEnergetic 41 = .ok (.iload_n 3, 1) := by decide +kernel
theorem dX0_mostEnergetic_42 : decode cX0_mostEnergetic 42 = .ok (.istore_n 1, 1) := by decide +kernel
theorem dX0_mostEnergetic_43 : decode cX0_mostEnergetic 43 = .ok (.iload 4, 2) := by decide +kernel
theorem dX0_mostEnergetic_45 : decode cX0_mostEnergetic 45 = .ok (.istore_n 2, 1) := by decide +kernel
theorem dX0_mostEnergetic_46 : decode cX0_mostEnergetic 46 = .ok (.iinc 3 1, 3) := by decide +kernel
theorem dX0_mostEnergetic_49 : decode cX0_mostEnergetic 49 = .ok (.goto (-43), 3) := by decide +kernel
theorem dX0_mostEnergetic_52 : decode cX0_mostEnergetic 52 = .ok (.iload_n 1, 1) := by decide +kernel
theorem dX0_mostEnergetic_53 : decode cX0_mostEnergetic 53 = .ok (.ireturn, 1) := by decide +kernel
set_option maxRecDepth 20000 in
theorem ggX0_keptIfTasted_X0_numberOf : GoodIn wsX0_keptIfTasted wsX0_numberOf := goodIn_r _ [8, 1, 3, 33, 34, 35, 36, 37, 38] (by decide +kernel) (by decide +kernel)
set_option maxRecDepth 20000 in
theorem gX0_keptIfTasted_X0_numberOf : GoodIn wsX0_keptIfTasted (wsV RX0 76 RX0 yX0_numberOf wsX0_numberOf) := goodIn_app (goodIn_of _ (by decide +kernel)) ggX0_keptIfTasted_X0_numberOf
set_option maxRecDepth 20000 in
theorem ggX0_keptIfTasted_X0_note : GoodIn wsX0_keptIfTasted wsX0_note := goodIn_r _ [12, 13, 14, 33, 34, 35, 36, 37, 38, 39, 40, 41, 42] (by decide +kernel) (by decide +kernel)
set_option maxRecDepth 20000 in
theorem gX0_keptIfTasted_X0_note : GoodIn wsX0_keptIfTasted (wsV RX0 79 RX0 yX0_note wsX0_note) := goodIn_app (goodIn_of _ (by decide +kernel)) ggX0_keptIfTasted_X0_note
set_option maxRecDepth 20000 in
theorem ggX0_keptIfTasted_X0_foundAloneBy : GoodIn wsX0_keptIfTasted wsX0_foundAloneBy := goodIn_r _ [18, 14, 19, 20, 21, 22, 23, 24, 25, 7, 26, 27, 28, 33, 34, 35, 36, 37, 38] (by decide +kernel) (by decide +kernel)
set_option maxRecDepth 20000 in
theorem gX0_keptIfTasted_X0_foundAloneBy : GoodIn wsX0_keptIfTasted (wsV RX0 58 RX0 yX0_foundAloneBy wsX0_foundAloneBy) := goodIn_app (goodIn_of _ (by decide +kernel)) ggX0_keptIfTasted_X0_foundAloneBy
set_option maxRecDepth 20000 in
theorem ggX0_keptIfTasted_X5_bit : GoodIn wsX0_keptIfTasted wsX5_bit := goodIn_r _ [22] (by decide +kernel) (by decide +kernel)
set_option maxRecDepth 20000 in
theorem gX0_keptIfTasted_X5_bit_n37 : GoodIn wsX0_keptIfTasted (wsX5_bit) := ggX0_keptIfTasted_X5_bit
set_option maxRecDepth 20000 in
theorem ggX0_keptIfTasted_X0_neededOf : GoodIn wsX0_keptIfTasted wsX0_neededOf := goodIn_r _ [32, 19, 27, 21, 28, 15, 16, 17, 7, 18, 14, 20, 22, 23, 24, 25, 26, 33, 34, 35, 36, 37, 38] (by decide +kernel) (by decide +kernel)
set_option maxRecDepth 20000 in
theorem gX0_keptIfTasted_X0_neededOf : GoodIn wsX0_keptIfTasted (wsV RX0 83 RX0 yX0_neededOf wsX0_neededOf) := goodIn_app (goodIn_of _ (by decide +kernel)) ggX0_keptIfTasted_X0_neededOf
theorem dX0_keptIfTasted_0 : decode cX0_keptIfTasted 0 = .ok (.aload_n 0, 1) := by decide +kernel
theorem dX0_keptIfTasted_1 : decode cX0_keptIfTasted 1 = .ok (.getfield 33, 3) := by decide +kernel
theorem dX0_keptIfTasted_4 : decode cX0_keptIfTasted 4 = .ok (.bipush 41, 2) := by decide +kernel
theorem dX0_keptIfTasted_6 : decode cX0_keptIfTasted 6 = .ok (.if_icmp .ge 12, 3) := by decide +kernel
theorem dX0_keptIfTasted_9 : decode cX0_keptIfTasted 9 = .ok (.aload_n 0, 1) := by decide +kernel
theorem dX0_keptIfTasted_10 : decode cX0_keptIfTasted 10 = .ok (.iload_n 1, 1) := by decide +kernel
theorem dX0_keptIfTasted_11 : decode cX0_keptIfTasted 11 = .ok (.invokevirtual 76, 3) := by decide +kernel
theorem dX0_keptIfTasted_14 : decode cX0_keptIfTasted 14 = .ok (.iconst (-1), 1) := by decide +kernel
theorem dX0_keptIfTasted_15 : decode cX0_keptIfTasted 15 = .ok (.if_icmp .eq 8, 3) := by decide +kernel
theorem dX0_keptIfTasted_18 : decode cX0_keptIfTasted 18 = .ok (.aload_n 0, 1) := by decide +kernel
theorem dX0_keptIfTasted_19 : decode cX0_keptIfTasted 19 = .ok (.getfield 25, 3) := by decide +kernel
theorem dX0_keptIfTasted_22 : decode cX0_keptIfTasted 22 = .ok (.lreturn, 1) := by decide +kernel
theorem dX0_keptIfTasted_23 : decode cX0_keptIfTasted 23 = .ok (.aload_n 0, 1) := by decide +kernel
theorem dX0_keptIfTasted_24 : decode cX0_keptIfTasted 24 = .ok (.getfield 11, 3) := by decide +kernel
theorem dX0_keptIfTasted_27 : decode cX0_keptIfTasted 27 = .ok (.aload_n 0, 1) := by decide +kernel
theorem dX0_keptIfTasted_28 : decode cX0_keptIfTasted 28 = .ok (.getfield 33, 3) := by decide +kernel
theorem dX0_keptIfTasted_31 : decode cX0_keptIfTasted 31 = .ok (.iload_n 1, 1) := by decide +kernel
theorem dX0_keptIfTasted_32 : decode cX0_keptIfTasted 32 = .ok (.iastore, 1) := by decide +kernel
theorem dX0_keptIfTasted_33 : decode cX0_keptIfTasted 33 = .ok (.aload_n 0, 1) := by decide +kernel
theorem dX0_keptIfTasted_34 : decode cX0_keptIfTasted 34 = .ok (.aload_n 0, 1) := by decide +kernel
theorem dX0_keptIfTasted_35 : decode cX0_keptIfTasted 35 = .ok (.getfield 33, 3) := by decide +kernel
theorem dX0_keptIfTasted_38 : decode cX0_keptIfTasted 38 = .ok (.aload_n 2, 1) := by decide +kernel
theorem dX0_keptIfTasted_39 : decode cX0_keptIfTasted 39 = .ok (.invokevirtual 79, 3) := by decide +kernel
theorem dX0_keptIfTasted_42 : decode cX0_keptIfTasted 42 = .ok (.aload_n 0, 1) := by decide +kernel
theorem dX0_keptIfTasted_43 : decode cX0_keptIfTasted 43 = .ok (.aload_n 0, 1) := by decide +kernel
theorem dX0_keptIfTasted_44 : decode cX0_keptIfTasted 44 = .ok (.getfield 33, 3) := by decide +kernel
theorem dX0_keptIfTasted_47 : decode cX0_keptIfTasted 47 = .ok (.aload_n 0, 1) := by decide +kernel
theorem dX0_keptIfTasted_48 : decode cX0_keptIfTasted 48 = .ok (.getfield 25, 3) := by decide +kernel
theorem dX0_keptIfTasted_51 : decode cX0_keptIfTasted 51 = .ok (.invokevirtual 58, 3) := by decide +kernel
theorem dX0_keptIfTasted_54 : decode cX0_keptIfTasted 54 = .ok (.lconst 0, 1) := by decide +kernel
theorem dX0_keptIfTasted_55 : decode cX0_keptIfTasted 55 = .ok (.lcmp, 1) := by decide +kernel
theorem dX0_keptIfTasted_56 : decode cX0_keptIfTasted 56 = .ok (.ifCond .ne 8, 3) := by decide +kernel
theorem dX0_keptIfTasted_59 : decode cX0_keptIfTasted 59 = .ok (.aload_n 0, 1) := by decide +kernel
theorem dX0_keptIfTasted_60 : decode cX0_keptIfTasted 60 = .ok (.getfield 25, 3) := by decide +kernel
theorem dX0_keptIfTasted_63 : decode cX0_keptIfTasted 63 = .ok (.lreturn, 1) := by decide +kernel
theorem dX0_keptIfTasted_64 : decode cX0_keptIfTasted 64 = .ok (.aload_n 0, 1) := by decide +kernel
theorem dX0_keptIfTasted_65 : decode cX0_keptIfTasted 65 = .ok (.aload_n 0, 1) := by decide +kernel
theorem dX0_keptIfTasted_66 : decode cX0_keptIfTasted 66 = .ok (.getfield 25, 3) := by decide +kernel
theorem dX0_keptIfTasted_69 : decode cX0_keptIfTasted 69 = .ok (.aload_n 0, 1) := by decide +kernel
theorem dX0_keptIfTasted_70 : decode cX0_keptIfTasted 70 = .ok (.getfield 33, 3) := by decide +kernel
theorem dX0_keptIfTasted_73 : decode cX0_keptIfTasted 73 = .ok (.invokestatic 37, 3) := by decide +kernel
theorem dX0_keptIfTasted_76 : decode cX0_keptIfTasted 76 = .ok (.lor, 1) := by decide +kernel
theorem dX0_keptIfTasted_77 : decode cX0_keptIfTasted 77 = .ok (.invokevirtual 83, 3) := by decide +kernel
theorem dX0_keptIfTasted_80 : decode cX0_keptIfTasted 80 = .ok (.lreturn, 1) := by decide +kernel
theorem dX0_take_0 : decode cX0_take 0 = .ok (.lload_n 1, 1) := by decide +kernel
theorem dX0_take_1 : decode cX0_take 1 = .ok (.aload_n 0, 1) := by decide +kernel
theorem dX0_take_2 : decode cX0_take 2 = .ok (.getfield 25, 3) := by decide +kernel
theorem dX0_take_5 : decode cX0_take 5 = .ok (.lcmp, 1) := by decide +kernel
theorem dX0_take_6 : decode cX0_take 6 = .ok (.ifCond .eq 27, 3) := by decide +kernel
theorem dX0_take_9 : decode cX0_take 9 = .ok (.aload_n 0, 1) := by decide +kernel
theorem dX0_take_10 : decode cX0_take 10 = .ok (.getfield 33, 3) := by decide +kernel
theorem dX0_take_13 : decode cX0_take 13 = .ok (.bipush 40, 2) := by decide +kernel
theorem dX0_take_15 : decode cX0_take 15 = .ok (.if_icmp .ge 18, 3) := by decide +kernel
theorem dX0_take_18 : decode cX0_take 18 = .ok (.aload_n 0, 1) := by decide +kernel
theorem dX0_take_19 : decode cX0_take 19 = .ok (.lload_n 1, 1) := by decide +kernel
theorem dX0_take_20 : decode cX0_take 20 = .ok (.putfield 25, 3) := by decide +kernel
theorem dX0_take_23 : decode cX0_take 23 = .ok (.aload_n 0, 1) := by decide +kernel
theorem dX0_take_24 : decode cX0_take 24 = .ok (.dup, 1) := by decide +kernel
theorem dX0_take_25 : decode cX0_take 25 = .ok (.getfield 33, 3) := by decide +kernel
theorem dX0_take_28 : decode cX0_take 28 = .ok (.iconst 1, 1) := by decide +kernel
theorem dX0_take_29 : decode cX0_take 29 = .ok (.iadd, 1) := by decide +kernel
theorem dX0_take_30 : decode cX0_take 30 = .ok (.putfield 33, 3) := by decide +kernel
theorem dX0_take_33 : decode cX0_take 33 = .ok (.return_, 1) := by decide +kernel
set_option maxRecDepth 20000 in
theorem ggX0_settle_X0_isKept : GoodIn wsX0_settle wsX0_isKept := goodIn_r _ [7, 2, 8, 9, 10, 27, 28, 29, 30, 31, 32] (by decide +kernel) (by decide +kernel)
set_option maxRecDepth 20000 in
theorem gX0_settle_X0_isKept : GoodIn wsX0_settle (wsV RX0 54 RX0 yX0_isKept wsX0_isKept) := goodIn_app (goodIn_of _ (by decide +kernel)) ggX0_settle_X0_isKept
set_option maxRecDepth 20000 in
theorem ggX0_settle_X0_foundAloneBy : GoodIn wsX0_settle wsX0_foundAloneBy := goodIn_r _ [14, 15, 16, 17, 9, 18, 19, 20, 21, 6, 22, 8, 10, 27, 28, 29, 30, 31, 32] (by decide +kernel) (by decide +kernel)
set_option maxRecDepth 20000 in
theorem gX0_settle_X0_foundAloneBy : GoodIn wsX0_settle (wsV RX0 58 RX0 yX0_foundAloneBy wsX0_foundAloneBy) := goodIn_app (goodIn_of _ (by decide +kernel)) ggX0_settle_X0_foundAloneBy
set_option maxRecDepth 20000 in
theorem ggX0_settle_X5_bit : GoodIn wsX0_settle wsX5_bit := goodIn_r _ [18] (by decide +kernel) (by decide +kernel)
set_option maxRecDepth 20000 in
theorem gX0_settle_X5_bit_n37 : GoodIn wsX0_settle (wsX5_bit) := ggX0_settle_X5_bit
set_option maxRecDepth 20000 in
theorem ggX0_settle_X0_neededOf : GoodIn wsX0_settle wsX0_neededOf := goodIn_r _ [26, 16, 8, 9, 10, 11, 12, 13, 6, 14, 15, 17, 18, 19, 20, 21, 22, 27, 28, 29, 30, 31, 32] (by decide +kernel) (by decide +kernel)
set_option maxRecDepth 20000 in
theorem gX0_settle_X0_neededOf : GoodIn wsX0_settle (wsV RX0 83 RX0 yX0_neededOf wsX0_neededOf) := goodIn_app (goodIn_of _ (by decide +kernel)) ggX0_settle_X0_neededOf
theorem dX0_settle_0 : decode cX0_settle 0 = .ok (.iconst 0, 1) := by decide +kernel
theorem dX0_settle_1 : decode cX0_settle 1 = .ok (.istore_n 1, 1) := by decide +kernel
theorem dX0_settle_2 : decode cX0_settle 2 = .ok (.iload_n 1, 1) := by decide +kernel
theorem dX0_settle_3 : decode cX0_settle 3 = .ok (.aload_n 0, 1) := by decide +kernel
theorem dX0_settle_4 : decode cX0_settle 4 = .ok (.getfield 33, 3) := by decide +kernel
theorem dX0_settle_7 : decode cX0_settle 7 = .ok (.if_icmp .ge 50, 3) := by decide +kernel
theorem dX0_settle_10 : decode cX0_settle 10 = .ok (.iload_n 1, 1) := by decide +kernel
theorem dX0_settle_11 : decode cX0_settle 11 = .ok (.bipush 40, 2) := by decide +kernel
theorem dX0_settle_13 : decode cX0_settle 13 = .ok (.if_icmp .ge 44, 3) := by decide +kernel
theorem dX0_settle_16 : decode cX0_settle 16 = .ok (.aload_n 0, 1) := by decide +kernel
theorem dX0_settle_17 : decode cX0_settle 17 = .ok (.iload_n 1, 1) := by decide +kernel
theorem dX0_settle_18 : decode cX0_settle 18 = .ok (.invokevirtual 54, 3) := by decide +kernel
theorem dX0_settle_21 : decode cX0_settle 21 = .ok (.ifCond .ne 30, 3) := by decide +kernel
theorem dX0_settle_24 : decode cX0_settle 24 = .ok (.aload_n 0, 1) := by decide +kernel
theorem dX0_settle_25 : decode cX0_settle 25 = .ok (.iload_n 1, 1) := by decide +kernel
theorem dX0_settle_26 : decode cX0_settle 26 = .ok (.aload_n 0, 1) := by decide +kernel
theorem dX0_settle_27 : decode cX0_settle 27 = .ok (.getfield 25, 3) := by decide +kernel
theorem dX0_settle_30 : decode cX0_settle 30 = .ok (.invokevirtual 58, 3) := by decide +kernel
theorem dX0_settle_33 : decode cX0_settle 33 = .ok (.lconst 0, 1) := by decide +kernel
theorem dX0_settle_34 : decode cX0_settle 34 = .ok (.lcmp, 1) := by decide +kernel
theorem dX0_settle_35 : decode cX0_settle 35 = .ok (.ifCond .eq 16, 3) := by decide +kernel
theorem dX0_settle_38 : decode cX0_settle 38 = .ok (.aload_n 0, 1) := by decide +kernel
theorem dX0_settle_39 : decode cX0_settle 39 = .ok (.dup, 1) := by decide +kernel
theorem dX0_settle_40 : decode cX0_settle 40 = .ok (.getfield 25, 3) := by decide +kernel
theorem dX0_settle_43 : decode cX0_settle 43 = .ok (.iload_n 1, 1) := by decide +kernel
theorem dX0_settle_44 : decode cX0_settle 44 = .ok (.invokestatic 37, 3) := by decide +kernel
theorem dX0_settle_47 : decode cX0_settle 47 = .ok (.lor, 1) := by decide +kernel
theorem dX0_settle_48 : decode cX0_settle 48 = .ok (.putfield 25, 3) := by decide +kernel
theorem dX0_settle_51 : decode cX0_settle 51 = .ok (.iinc 1 1, 3) := by decide +kernel
theorem dX0_settle_54 : decode cX0_settle 54 = .ok (.goto (-52), 3) := by decide +kernel
theorem dX0_settle_57 : decode cX0_settle 57 = .ok (.aload_n 0, 1) := by decide +kernel
theorem dX0_settle_58 : decode cX0_settle 58 = .ok (.aload_n 0, 1) := by decide +kernel
theorem dX0_settle_59 : decode cX0_settle 59 = .ok (.aload_n 0, 1) := by decide +kernel
theorem dX0_settle_60 : decode cX0_settle 60 = .ok (.getfield 25, 3) := by decide +kernel
theorem dX0_settle_63 : decode cX0_settle 63 = .ok (.invokevirtual 83, 3) := by decide +kernel
theorem dX0_settle_66 : decode cX0_settle 66 = .ok (.putfield 25, 3) := by decide +kernel
theorem dX0_settle_69 : decode cX0_settle 69 = .ok (.return_, 1) := by decide +kernel
set_option maxRecDepth 20000 in
theorem ggX0_neededOf_X5_contains : GoodIn wsX0_neededOf wsX5_contains := goodIn_r _ [4] (by decide +kernel) (by decide +kernel)
set_option maxRecDepth 20000 in
theorem gX0_neededOf_X5_contains_n29 : GoodIn wsX0_neededOf (wsX5_contains) := ggX0_neededOf_X5_contains
set_option maxRecDepth 20000 in
theorem ggX0_neededOf_X0_foundAloneBy : GoodIn wsX0_neededOf wsX0_foundAloneBy := goodIn_r _ [9, 10, 1, 11, 3, 12, 13, 14, 15, 8, 16, 2, 4, 17, 18, 19, 20, 21, 22] (by decide +kernel) (by decide +kernel)
set_option maxRecDepth 20000 in
theorem gX0_neededOf_X0_foundAloneBy : GoodIn wsX0_neededOf (wsV RX0 58 RX0 yX0_foundAloneBy wsX0_foundAloneBy) := goodIn_app (goodIn_of _ (by decide +kernel)) ggX0_neededOf_X0_foundAloneBy
set_option maxRecDepth 20000 in
theorem ggX0_neededOf_X5_bit : GoodIn wsX0_neededOf wsX5_bit := goodIn_r _ [12] (by decide +kernel) (by decide +kernel)
set_option maxRecDepth 20000 in
theorem gX0_neededOf_X5_bit_n37 : GoodIn wsX0_neededOf (wsX5_bit) := ggX0_neededOf_X5_bit
theorem dX0_neededOf_0 : decode cX0_neededOf 0 = .ok (.lload_n 1, 1) := by decide +kernel
theorem dX0_neededOf_1 : decode cX0_neededOf 1 = .ok (.lstore_n 3, 1) := by decide +kernel
theorem dX0_neededOf_2 : decode cX0_neededOf 2 = .ok (.iconst 0, 1) := by decide +kernel
theorem dX0_neededOf_3 : decode cX0_neededOf 3 = .ok (.istore 5, 2) := by decide +kernel
theorem dX0_neededOf_5 : decode cX0_neededOf 5 = .ok (.iload 5, 2) := by decide +kernel
theorem dX0_neededOf_7 : decode cX0_neededOf 7 = .ok (.bipush 41, 2) := by decide +kernel
theorem dX0_neededOf_9 : decode cX0_neededOf 9 = .ok (.if_icmp .ge 42, 3) := by decide +kernel
theorem dX0_neededOf_12 : decode cX0_neededOf 12 = .ok (.lload_n 3, 1) := by decide +kernel
theorem dX0_neededOf_13 : decode cX0_neededOf 13 = .ok (.iload 5, 2) := by decide +kernel
theorem dX0_neededOf_15 : decode cX0_neededOf 15 = .ok (.invokestatic 29, 3) := by decide +kernel
theorem dX0_neededOf_18 : decode cX0_neededOf 18 = .ok (.ifCond .eq 27, 3) := by decide +kernel
theorem dX0_neededOf_21 : decode cX0_neededOf 21 = .ok (.aload_n 0, 1) := by decide +kernel
theorem dX0_neededOf_22 : decode cX0_neededOf 22 = .ok (.iload 5, 2) := by decide +kernel
theorem dX0_neededOf_24 : decode cX0_neededOf 24 = .ok (.lload_n 3, 1) := by decide +kernel
theorem dX0_neededOf_25 : decode cX0_neededOf 25 = .ok (.invokevirtual 58, 3) := by decide +kernel
theorem dX0_neededOf_28 : decode cX0_neededOf 28 = .ok (.lconst 0, 1) := by decide +kernel
theorem dX0_neededOf_29 : decode cX0_neededOf 29 = .ok (.lcmp, 1) := by decide +kernel
theorem dX0_neededOf_30 : decode cX0_neededOf 30 = .ok (.ifCond .ne 15, 3) := by decide +kernel
theorem dX0_neededOf_33 : decode cX0_neededOf 33 = .ok (.lload_n 3, 1) := by decide +kernel
theorem dX0_neededOf_34 : decode cX0_neededOf 34 = .ok (.iload 5, 2) := by decide +kernel
theorem dX0_neededOf_36 : decode cX0_neededOf 36 = .ok (.invokestatic 37, 3) := by decide +kernel
theorem dX0_neededOf_39 : decode cX0_neededOf 39 = .ok (.ldc2_w 48, 3) := by decide +kernel
theorem dX0_neededOf_42 : decode cX0_neededOf 42 = .ok (.lxor, 1) := by decide +kernel
theorem dX0_neededOf_43 : decode cX0_neededOf 43 = .ok (.land, 1) := by decide +kernel
theorem dX0_neededOf_44 : decode cX0_neededOf 44 = .ok (.lstore_n 3, 1) := by decide +kernel
theorem dX0_neededOf_45 : decode cX0_neededOf 45 = .ok (.iinc 5 1, 3) := by decide +kernel
theorem dX0_neededOf_48 : decode cX0_neededOf 48 = .ok (.goto (-43), 3) := by decide +kernel
theorem dX0_neededOf_51 : decode cX0_neededOf 51 = .ok (.lload_n 3, 1) := by decide +kernel
theorem dX0_neededOf_52 : decode cX0_neededOf 52 = .ok (.lreturn, 1) := by decide +kernel
set_option maxRecDepth 20000 in
theorem ggX1_init_J7_fill_53178 : GoodIn wsX1_init wsJ7_fill_53178 := goodIn_r _ [12] (by decide +kernel) (by decide +kernel)
set_option maxRecDepth 20000 in
theorem gX1_init_J7_fill_53178 : GoodIn wsX1_init (va_wsS RX1 25 yJ7_fill_53178 wsJ7_fill_53178) := goodIn_app (goodIn_of _ (by decide +kernel)) ggX1_init_J7_fill_53178
theorem dX1_init_0 : decode cX1_init 0 = .ok (.aload_n 0, 1) := by decide +kernel
theorem dX1_init_1 : decode cX1_init 1 = .ok (.invokespecial 3, 3) := by decide +kernel
theorem dX1_init_4 : decode cX1_init 4 = .ok (.aload_n 0, 1) := by decide +kernel
theorem dX1_init_5 : decode cX1_init 5 = .ok (.iconst 4, 1) := by decide +kernel
theorem dX1_init_6 : decode cX1_init 6 = .ok (.newarray .int, 2) := by decide +kernel
theorem dX1_init_8 : decode cX1_init 8 = .ok (.putfield 9, 3) := by decide +kernel
theorem dX1_init_11 : decode cX1_init 11 = .ok (.aload_n 0, 1) := by decide +kernel
theorem dX1_init_12 : decode cX1_init 12 = .ok (.iconst 4, 1) := by decide +kernel
theorem dX1_init_13 : decode cX1_init 13 = .ok (.newarray .int, 2) := by decide +kernel
theorem dX1_init_15 : decode cX1_init 15 = .ok (.putfield 15, 3) := by decide +kernel
theorem dX1_init_18 : decode cX1_init 18 = .ok (.aload_n 0, 1) := by decide +kernel
theorem dX1_init_19 : decode cX1_init 19 = .ok (.iconst 4, 1) := by decide +kernel
theorem dX1_init_20 : decode cX1_init 20 = .ok (.newarray .int, 2) := by decide +kernel
theorem dX1_init_22 : decode cX1_init 22 = .ok (.putfield 18, 3) := by decide +kernel
theorem dX1_init_25 : decode cX1_init 25 = .ok (.aload_n 0, 1) := by decide +kernel
theorem dX1_init_26 : decode cX1_init 26 = .ok (.iconst 1, 1) := by decide +kernel
theorem dX1_init_27 : decode cX1_init 27 = .ok (.putfield 21, 3) := by decide +kernel
theorem dX1_init_30 : decode cX1_init 30 = .ok (.aload_n 0, 1) := by decide +kernel
theorem dX1_init_31 : decode cX1_init 31 = .ok (.getfield 9, 3) := by decide +kernel
theorem dX1_init_34 : decode cX1_init 34 = .ok (.iconst 1, 1) := by decide +kernel
theorem dX1_init_35 : decode cX1_init 35 = .ok (.invokestatic 25, 3) := by decide +kernel
theorem dX1_init_38 : decode cX1_init 38 = .ok (.aload_n 0, 1) := by decide +kernel
theorem dX1_init_39 : decode cX1_init 39 = .ok (.getfield 15, 3) := by decide +kernel
theorem dX1_init_42 : decode cX1_init 42 = .ok (.iconst 1, 1) := by decide +kernel
theorem dX1_init_43 : decode cX1_init 43 = .ok (.invokestatic 25, 3) := by decide +kernel
theorem dX1_init_46 : decode cX1_init 46 = .ok (.aload_n 0, 1) := by decide +kernel
theorem dX1_init_47 : decode cX1_init 47 = .ok (.getfield 18, 3) := by decide +kernel
theorem dX1_init_50 : decode cX1_init 50 = .ok (.iconst 1, 1) := by decide +kernel
theorem dX1_init_51 : decode cX1_init 51 = .ok (.invokestatic 25, 3) := by decide +kernel
theorem dX1_init_54 : decode cX1_init 54 = .ok (.return_, 1) := by decide +kernel
theorem dX1_weightOf_0 : decode cX1_weightOf 0 = .ok (.aload_n 0, 1) := by decide +kernel
theorem dX1_weightOf_1 : decode cX1_weightOf 1 = .ok (.getfield 9, 3) := by decide +kernel
theorem dX1_weightOf_4 : decode cX1_weightOf 4 = .ok (.iload_n 1, 1) := by decide +kernel
theorem dX1_weightOf_5 : decode cX1_weightOf 5 = .ok (.iaload, 1) := by decide +kernel
theorem dX1_weightOf_6 : decode cX1_weightOf 6 = .ok (.aload_n 0, 1) := by decide +kernel
theorem dX1_weightOf_7 : decode cX1_weightOf 7 = .ok (.getfield 15, 3) := by decide +kernel
theorem dX1_weightOf_10 : decode cX1_weightOf 10 = .ok (.iload_n 1, 1) := by decide +kernel
theorem dX1_weightOf_11 : decode cX1_weightOf 11 = .ok (.iaload, 1) := by decide +kernel
theorem dX1_weightOf_12 : decode cX1_weightOf 12 = .ok (.iadd, 1) := by decide +kernel
theorem dX1_weightOf_13 : decode cX1_weightOf 13 = .ok (.aload_n 0, 1) := by decide +kernel
theorem dX1_weightOf_14 : decode cX1_weightOf 14 = .ok (.getfield 18, 3) := by decide +kernel
theorem dX1_weightOf_17 : decode cX1_weightOf 17 = .ok (.iload_n 1, 1) := by decide +kernel
theorem dX1_weightOf_18 : decode cX1_weightOf 18 = .ok (.iaload, 1) := by decide +kernel
theorem dX1_weightOf_19 : decode cX1_weightOf 19 = .ok (.iadd, 1) := by decide +kernel
theorem dX1_weightOf_20 : decode cX1_weightOf 20 = .ok (.ireturn, 1) := by decide +kernel
theorem dX1_setWeights_0 : decode cX1_setWeights 0 = .ok (.aload_n 0, 1) := by decide +kernel
theorem dX1_setWeights_1 : decode cX1_setWeights 1 = .ok (.getfield 9, 3) := by decide +kernel
theorem dX1_setWeights_4 : decode cX1_setWeights 4 = .ok (.iload_n 1, 1) := by decide +kernel
theorem dX1_setWeights_5 : decode cX1_setWeights 5 = .ok (.iload_n 2, 1) := by decide +kernel
theorem dX1_setWeights_6 : decode cX1_setWeights 6 = .ok (.iastore, 1) := by decide +kernel
theorem dX1_setWeights_7 : decode cX1_setWeights 7 = .ok (.aload_n 0, 1) := by decide +kernel
theorem dX1_setWeights_8 : decode cX1_setWeights 8 = .ok (.getfield 15, 3) := by decide +kernel
theorem dX1_setWeights_11 : decode cX1_setWeights 11 = .ok (.iload_n 1, 1) := by decide +kernel
theorem dX1_setWeights_12 : decode cX1_setWeights 12 = .ok (.iload_n 3, 1) := by decide +kernel
theorem dX1_setWeights_13 : decode cX1_setWeights 13 = .ok (.iastore, 1) := by decide +kernel
theorem dX1_setWeights_14 : decode cX1_setWeights 14 = .ok (.aload_n 0, 1) := by decide +kernel
theorem dX1_setWeights_15 : decode cX1_setWeights 15 = .ok (.getfield 18, 3) := by decide +kernel
theorem dX1_setWeights_18 : decode cX1_setWeights 18 = .ok (.iload_n 1, 1) := by decide +kernel
theorem dX1_setWeights_19 : decode cX1_setWeights 19 = .ok (.iload 4, 2) := by decide +kernel
theorem dX1_setWeights_21 : decode cX1_setWeights 21 = .ok (.iastore, 1) := by decide +kernel
theorem dX1_setWeights_22 : decode cX1_setWeights 22 = .ok (.return_, 1) := by decide +kernel
set_option maxRecDepth 20000 in
theorem ggX1_nextCase_X1_nextValue : GoodIn wsX1_nextCase wsX1_nextValue := goodIn_r _ [5, 6, 7, 8, 9, 10, 4, 11, 12, 13, 14, 15, 16, 17, 18, 19, 20, 21] (by decide +kernel) (by decide +kernel)
set_option maxRecDepth 20000 in
theorem gX1_nextCase_X1_nextValue : GoodIn wsX1_nextCase (wsV RX1 31 RX1 yX1_nextValue wsX1_nextValue) := goodIn_app (goodIn_of _ (by decide +kernel)) ggX1_nextCase_X1_nextValue
theorem dX1_nextCase_0 : decode cX1_nextCase 0 = .ok (.iconst 0, 1) := by decide +kernel
theorem dX1_nextCase_1 : decode cX1_nextCase 1 = .ok (.istore_n 1, 1) := by decide +kernel
theorem dX1_nextCase_2 : decode cX1_nextCase 2 = .ok (.iconst 0, 1) := by decide +kernel
theorem dX1_nextCase_3 : decode cX1_nextCase 3 = .ok (.istore_n 2, 1) := by decide +kernel
theorem dX1_nextCase_4 : decode cX1_nextCase 4 = .ok (.iload_n 2, 1) := by decide +kernel
theorem dX1_nextCase_5 : decode cX1_nextCase 5 = .ok (.iconst 4, 1) := by decide +kernel
theorem dX1_nextCase_6 : decode cX1_nextCase 6 = .ok (.if_icmp .ge 20, 3) := by decide +kernel
theorem dX1_nextCase_9 : decode cX1_nextCase 9 = .ok (.iload_n 1, 1) := by decide +kernel
theorem dX1_nextCase_10 : decode cX1_nextCase 10 = .ok (.bipush 10, 2) := by decide +kernel
theorem dX1_nextCase_12 : decode cX1_nextCase 12 = .ok (.imul, 1) := by decide +kernel
theorem dX1_nextCase_13 : decode cX1_nextCase 13 = .ok (.aload_n 0, 1) := by decide +kernel
theorem dX1_nextCase_14 : decode cX1_nextCase 14 = .ok (.iload_n 2, 1) := by decide +kernel
theorem dX1_nextCase_15 : decode cX1_nextCase 15 = .ok (.invokevirtual 31, 3) := by decide +kernel
theorem dX1_nextCase_18 : decode cX1_nextCase 18 = .ok (.iadd, 1) := by decide +kernel
theorem dX1_nextCase_19 : decode cX1_nextCase 19 = .ok (.istore_n 1, 1) := by decide +kernel
theorem dX1_nextCase_20 : decode cX1_nextCase 20 = .ok (.iinc 2 1, 3) := by decide +kernel
theorem dX1_nextCase_23 : decode cX1_nextCase 23 = .ok (.goto (-19), 3) := by decide +kernel
theorem dX1_nextCase_26 : decode cX1_nextCase 26 = .ok (.iload_n 1, 1) := by decide +kernel
theorem dX1_nextCase_27 : decode cX1_nextCase 27 = .ok (.ireturn, 1) := by decide +kernel
set_option maxRecDepth 20000 in
theorem ggX1_mutantOf_X1_drawnBelow : GoodIn wsX1_mutantOf wsX1_drawnBelow := goodIn_r _ [5, 6, 16, 17, 18, 19] (by decide +kernel) (by decide +kernel)
set_option maxRecDepth 20000 in
theorem gX1_mutantOf_X1_drawnBelow : GoodIn wsX1_mutantOf (wsV RX1 35 RX1 yX1_drawnBelow wsX1_drawnBelow) := goodIn_app (goodIn_of _ (by decide +kernel)) ggX1_mutantOf_X1_drawnBelow
set_option maxRecDepth 20000 in
theorem ggX1_mutantOf_X5_valueOf : GoodIn wsX1_mutantOf wsX5_valueOf := goodIn_r _ [9] (by decide +kernel) (by decide +kernel)
set_option maxRecDepth 20000 in
theorem gX1_mutantOf_X5_valueOf_n38 : GoodIn wsX1_mutantOf (wsX5_valueOf) := ggX1_mutantOf_X5_valueOf
set_option maxRecDepth 20000 in
theorem ggX1_mutantOf_X5_withValue : GoodIn wsX1_mutantOf wsX5_withValue := goodIn_r _ [11, 12, 7, 8, 9, 13, 14, 15] (by decide +kernel) (by decide +kernel)
set_option maxRecDepth 20000 in
theorem gX1_mutantOf_X5_withValue_n42 : GoodIn wsX1_mutantOf (wsX5_withValue) := ggX1_mutantOf_X5_withValue
theorem dX1_mutantOf_0 : decode cX1_mutantOf 0 = .ok (.aload_n 0, 1) := by decide +kernel
theorem dX1_mutantOf_1 : decode cX1_mutantOf 1 = .ok (.iconst 4, 1) := by decide +kernel
theorem dX1_mutantOf_2 : decode cX1_mutantOf 2 = .ok (.invokevirtual 35, 3) := by decide +kernel
theorem dX1_mutantOf_5 : decode cX1_mutantOf 5 = .ok (.istore_n 2, 1) := by decide +kernel
theorem dX1_mutantOf_6 : decode cX1_mutantOf 6 = .ok (.iload_n 1, 1) := by decide +kernel
theorem dX1_mutantOf_7 : decode cX1_mutantOf 7 = .ok (.iload_n 2, 1) := by decide +kernel
theorem dX1_mutantOf_8 : decode cX1_mutantOf 8 = .ok (.invokestatic 38, 3) := by decide +kernel
theorem dX1_mutantOf_11 : decode cX1_mutantOf 11 = .ok (.iconst 1, 1) := by decide +kernel
theorem dX1_mutantOf_12 : decode cX1_mutantOf 12 = .ok (.iadd, 1) := by decide +kernel
theorem dX1_mutantOf_13 : decode cX1_mutantOf 13 = .ok (.aload_n 0, 1) := by decide +kernel
theorem dX1_mutantOf_14 : decode cX1_mutantOf 14 = .ok (.bipush 9, 2) := by decide +kernel
theorem dX1_mutantOf_16 : decode cX1_mutantOf 16 = .ok (.invokevirtual 35, 3) := by decide +kernel
theorem dX1_mutantOf_19 : decode cX1_mutantOf 19 = .ok (.iadd, 1) := by decide +kernel
theorem dX1_mutantOf_20 : decode cX1_mutantOf 20 = .ok (.istore_n 3, 1) := by decide +kernel
theorem dX1_mutantOf_21 : decode cX1_mutantOf 21 = .ok (.iload_n 1, 1) := by decide +kernel
theorem dX1_mutantOf_22 : decode cX1_mutantOf 22 = .ok (.iload_n 2, 1) := by decide +kernel
theorem dX1_mutantOf_23 : decode cX1_mutantOf 23 = .ok (.iload_n 3, 1) := by decide +kernel
theorem dX1_mutantOf_24 : decode cX1_mutantOf 24 = .ok (.bipush 10, 2) := by decide +kernel
theorem dX1_mutantOf_26 : decode cX1_mutantOf 26 = .ok (.if_icmp .lt 10, 3) := by decide +kernel
theorem dX1_mutantOf_29 : decode cX1_mutantOf 29 = .ok (.iload_n 3, 1) := by decide +kernel
theorem dX1_mutantOf_30 : decode cX1_mutantOf 30 = .ok (.bipush 10, 2) := by decide +kernel
theorem dX1_mutantOf_32 : decode cX1_mutantOf 32 = .ok (.isub, 1) := by decide +kernel
theorem dX1_mutantOf_33 : decode cX1_mutantOf 33 = .ok (.goto 4, 3) := by decide +kernel
theorem dX1_mutantOf_36 : decode cX1_mutantOf 36 = .ok (.iload_n 3, 1) := by decide +kernel
theorem dX1_mutantOf_37 : decode cX1_mutantOf 37 = .ok (.invokestatic 42, 3) := by decide +kernel
theorem dX1_mutantOf_40 : decode cX1_mutantOf 40 = .ok (.ireturn, 1) := by decide +kernel
set_option maxRecDepth 20000 in
theorem ggX1_nextValue_X1_weightOf : GoodIn wsX1_nextValue wsX1_weightOf := goodIn_r _ [7, 1, 2, 8, 14, 15, 16, 17] (by decide +kernel) (by decide +kernel)
set_option maxRecDepth 20000 in
theorem gX1_nextValue_X1_weightOf : GoodIn wsX1_nextValue (wsV RX1 46 RX1 yX1_weightOf wsX1_weightOf) := goodIn_app (goodIn_of _ (by decide +kernel)) ggX1_nextValue_X1_weightOf
set_option maxRecDepth 20000 in
theorem ggX1_nextValue_X1_drawnBelow : GoodIn wsX1_nextValue wsX1_drawnBelow := goodIn_r _ [12, 13, 14, 15, 16, 17] (by decide +kernel) (by decide +kernel)
set_option maxRecDepth 20000 in
theorem gX1_nextValue_X1_drawnBelow : GoodIn wsX1_nextValue (wsV RX1 35 RX1 yX1_drawnBelow wsX1_drawnBelow) := goodIn_app (goodIn_of _ (by decide +kernel)) ggX1_nextValue_X1_drawnBelow
theorem dX1_nextValue_0 : decode cX1_nextValue 0 = .ok (.aload_n 0, 1) := by decide +kernel
theorem dX1_nextValue_1 : decode cX1_nextValue 1 = .ok (.iload_n 1, 1) := by decide +kernel
theorem dX1_nextValue_2 : decode cX1_nextValue 2 = .ok (.invokevirtual 46, 3) := by decide +kernel
theorem dX1_nextValue_5 : decode cX1_nextValue 5 = .ok (.istore_n 2, 1) := by decide +kernel
theorem dX1_nextValue_6 : decode cX1_nextValue 6 = .ok (.iload_n 2, 1) := by decide +kernel
theorem dX1_nextValue_7 : decode cX1_nextValue 7 = .ok (.ifCond .ne 5, 3) := by decide +kernel
theorem dX1_nextValue_10 : decode cX1_nextValue 10 = .ok (.iconst 0, 1) := by decide +kernel
theorem dX1_nextValue_11 : decode cX1_nextValue 11 = .ok (.ireturn, 1) := by decide +kernel
theorem dX1_nextValue_12 : decode cX1_nextValue 12 = .ok (.aload_n 0, 1) := by decide +kernel
theorem dX1_nextValue_13 : decode cX1_nextValue 13 = .ok (.iload_n 2, 1) := by decide +kernel
theorem dX1_nextValue_14 : decode cX1_nextValue 14 = .ok (.invokevirtual 35, 3) := by decide +kernel
theorem dX1_nextValue_17 : decode cX1_nextValue 17 = .ok (.istore_n 3, 1) := by decide +kernel
theorem dX1_nextValue_18 : decode cX1_nextValue 18 = .ok (.iload_n 3, 1) := by decide +kernel
theorem dX1_nextValue_19 : decode cX1_nextValue 19 = .ok (.aload_n 0, 1) := by decide +kernel
theorem dX1_nextValue_20 : decode cX1_nextValue 20 = .ok (.getfield 9, 3) := by decide +kernel
theorem dX1_nextValue_23 : decode cX1_nextValue 23 = .ok (.iload_n 1, 1) := by decide +kernel
theorem dX1_nextValue_24 : decode cX1_nextValue 24 = .ok (.iaload, 1) := by decide +kernel
theorem dX1_nextValue_25 : decode cX1_nextValue 25 = .ok (.if_icmp .ge 9, 3) := by decide +kernel
theorem dX1_nextValue_28 : decode cX1_nextValue 28 = .ok (.aload_n 0, 1) := by decide +kernel
theorem dX1_nextValue_29 : decode cX1_nextValue 29 = .ok (.iconst 3, 1) := by decide +kernel
theorem dX1_nextValue_30 : decode cX1_nextValue 30 = .ok (.invokevirtual 35, 3) := by decide +kernel
theorem dX1_nextValue_33 : decode cX1_nextValue 33 = .ok (.ireturn, 1) := by decide +kernel
theorem dX1_nextValue_34 : decode cX1_nextValue 34 = .ok (.iload_n 3, 1) := by decide +kernel
theorem dX1_nextValue_35 : decode cX1_nextValue 35 = .ok (.aload_n 0, 1) := by decide +kernel
theorem dX1_nextValue_36 : decode cX1_nextValue 36 = .ok (.getfield 9, 3) := by decide +kernel
theorem dX1_nextValue_39 : decode cX1_nextValue 39 = .ok (.iload_n 1, 1) := by decide +kernel
theorem dX1_nextValue_40 : decode cX1_nextValue 40 = .ok (.iaload, 1) := by decide +kernel
theorem dX1_nextValue_41 : decode cX1_nextValue 41 = .ok (.aload_n 0, 1) := by decide +kernel
theorem dX1_nextValue_42 : decode cX1_nextValue 42 = .ok (.getfield 15, 3) := by decide +kernel
theorem dX1_nextValue_45 : decode cX1_nextValue 45 = .ok (.iload_n 1, 1) := by decide +kernel
theorem dX1_nextValue_46 : decode cX1_nextValue 46 = .ok (.iaload, 1) := by decide +kernel
theorem dX1_nextValue_47 : decode cX1_nextValue 47 = .ok (.iadd, 1) := by decide +kernel
theorem dX1_nextValue_48 : decode cX1_nextValue 48 = .ok (.if_icmp .ge 11, 3) := by decide +kernel
theorem dX1_nextValue_51 : decode cX1_nextValue 51 = .ok (.iconst 3, 1) := by decide +kernel
theorem dX1_nextValue_52 : decode cX1_nextValue 52 = .ok (.aload_n 0, 1) := by decide +kernel
theorem dX1_nextValue_53 : decode cX1_nextValue 53 = .ok (.iconst 4, 1) := by decide +kernel
theorem dX1_nextValue_54 : decode cX1_nextValue 54 = .ok (.invokevirtual 35, 3) := by decide +kernel
theorem dX1_nextValue_57 : decode cX1_nextValue 57 = .ok (.iadd, 1) := by decide +kernel
theorem dX1_nextValue_58 : decode cX1_nextValue 58 = .ok (.ireturn, 1) := by decide +kernel
theorem dX1_nextValue_59 : decode cX1_nextValue 59 = .ok (.bipush 7, 2) := by decide +kernel
theorem dX1_nextValue_61 : decode cX1_nextValue 61 = .ok (.aload_n 0, 1) := by decide +kernel
theorem dX1_nextValue_62 : decode cX1_nextValue 62 = .ok (.iconst 3, 1) := by decide +kernel
theorem dX1_nextValue_63 : decode cX1_nextValue 63 = .ok (.invokevirtual 35, 3) := by decide +kernel
theorem dX1_nextValue_66 : decode cX1_nextValue 66 = .ok (.iadd, 1) := by decide +kernel
theorem dX1_nextValue_67 : decode cX1_nextValue 67 = .ok (.ireturn, 1) := by decide +kernel
theorem dX1_drawnBelow_0 : decode cX1_drawnBelow 0 = .ok (.aload_n 0, 1) := by decide +kernel
theorem dX1_drawnBelow_1 : decode cX1_drawnBelow 1 = .ok (.aload_n 0, 1) := by decide +kernel
theorem dX1_drawnBelow_2 : decode cX1_drawnBelow 2 = .ok (.getfield 21, 3) := by decide +kernel
theorem dX1_drawnBelow_5 : decode cX1_drawnBelow 5 = .ok (.sipush 421, 3) := by decide +kernel
theorem dX1_drawnBelow_8 : decode cX1_drawnBelow 8 = .ok (.imul, 1) := by decide +kernel
theorem dX1_drawnBelow_9 : decode cX1_drawnBelow 9 = .ok (.sipush 1663, 3) := by decide +kernel
theorem dX1_drawnBelow_12 : decode cX1_drawnBelow 12 = .ok (.iadd, 1) := by decide +kernel
theorem dX1_drawnBelow_13 : decode cX1_drawnBelow 13 = .ok (.sipush 10000, 3) := by decide +kernel
theorem dX1_drawnBelow_16 : decode cX1_drawnBelow 16 = .ok (.irem, 1) := by decide +kernel
theorem dX1_drawnBelow_17 : decode cX1_drawnBelow 17 = .ok (.putfield 21, 3) := by decide +kernel
theorem dX1_drawnBelow_20 : decode cX1_drawnBelow 20 = .ok (.iload_n 1, 1) := by decide +kernel
theorem dX1_drawnBelow_21 : decode cX1_drawnBelow 21 = .ok (.iconst 1, 1) := by decide +kernel
theorem dX1_drawnBelow_22 : decode cX1_drawnBelow 22 = .ok (.if_icmp .ge 7, 3) := by decide +kernel
theorem dX1_drawnBelow_25 : decode cX1_drawnBelow 25 = .ok (.iconst 0, 1) := by decide +kernel
theorem dX1_drawnBelow_26 : decode cX1_drawnBelow 26 = .ok (.goto 12, 3) := by decide +kernel
theorem dX1_drawnBelow_29 : decode cX1_drawnBelow 29 = .ok (.aload_n 0, 1) := by decide +kernel
theorem dX1_drawnBelow_30 : decode cX1_drawnBelow 30 = .ok (.getfield 21, 3) := by decide +kernel
theorem dX1_drawnBelow_33 : decode cX1_drawnBelow 33 = .ok (.bipush 100, 2) := by decide +kernel
theorem dX1_drawnBelow_35 : decode cX1_drawnBelow 35 = .ok (.idiv, 1) := by decide +kernel
theorem dX1_drawnBelow_36 : decode cX1_drawnBelow 36 = .ok (.iload_n 1, 1) := by decide +kernel
theorem dX1_drawnBelow_37 : decode cX1_drawnBelow 37 = .ok (.irem, 1) := by decide +kernel
theorem dX1_drawnBelow_38 : decode cX1_drawnBelow 38 = .ok (.ireturn, 1) := by decide +kernel
set_option maxRecDepth 20000 in
theorem ggX2_init_J7_fill_53178 : GoodIn wsX2_init wsJ7_fill_53178 := goodIn_r _ [14] (by decide +kernel) (by decide +kernel)
set_option maxRecDepth 20000 in
theorem gX2_init_J7_fill_53178 : GoodIn wsX2_init (va_wsS RX2 28 yJ7_fill_53178 wsJ7_fill_53178) := goodIn_app (goodIn_of _ (by decide +kernel)) ggX2_init_J7_fill_53178
theorem dX2_init_0 : decode cX2_init 0 = .ok (.aload_n 0, 1) := by decide +kernel
theorem dX2_init_1 : decode cX2_init 1 = .ok (.invokespecial 3, 3) := by decide +kernel
theorem dX2_init_4 : decode cX2_init 4 = .ok (.aload_n 0, 1) := by decide +kernel
theorem dX2_init_5 : decode cX2_init 5 = .ok (.bipush 12, 2) := by decide +kernel
theorem dX2_init_7 : decode cX2_init 7 = .ok (.newarray .int, 2) := by decide +kernel
theorem dX2_init_9 : decode cX2_init 9 = .ok (.putfield 9, 3) := by decide +kernel
theorem dX2_init_12 : decode cX2_init 12 = .ok (.aload_n 0, 1) := by decide +kernel
theorem dX2_init_13 : decode cX2_init 13 = .ok (.bipush 12, 2) := by decide +kernel
theorem dX2_init_15 : decode cX2_init 15 = .ok (.newarray .int, 2) := by decide +kernel
theorem dX2_init_17 : decode cX2_init 17 = .ok (.putfield 15, 3) := by decide +kernel
theorem dX2_init_20 : decode cX2_init 20 = .ok (.aload_n 0, 1) := by decide +kernel
theorem dX2_init_21 : decode cX2_init 21 = .ok (.bipush 12, 2) := by decide +kernel
theorem dX2_init_23 : decode cX2_init 23 = .ok (.newarray .int, 2) := by decide +kernel
theorem dX2_init_25 : decode cX2_init 25 = .ok (.putfield 18, 3) := by decide +kernel
theorem dX2_init_28 : decode cX2_init 28 = .ok (.aload_n 0, 1) := by decide +kernel
theorem dX2_init_29 : decode cX2_init 29 = .ok (.bipush 24, 2) := by decide +kernel
theorem dX2_init_31 : decode cX2_init 31 = .ok (.newarray .int, 2) := by decide +kernel
theorem dX2_init_33 : decode cX2_init 33 = .ok (.putfield 21, 3) := by decide +kernel
theorem dX2_init_36 : decode cX2_init 36 = .ok (.aload_n 0, 1) := by decide +kernel
theorem dX2_init_37 : decode cX2_init 37 = .ok (.bipush 12, 2) := by decide +kernel
theorem dX2_init_39 : decode cX2_init 39 = .ok (.newarray .boolean, 2) := by decide +kernel
theorem dX2_init_41 : decode cX2_init 41 = .ok (.putfield 24, 3) := by decide +kernel
theorem dX2_init_44 : decode cX2_init 44 = .ok (.aload_n 0, 1) := by decide +kernel
theorem dX2_init_45 : decode cX2_init 45 = .ok (.getfield 21, 3) := by decide +kernel
theorem dX2_init_48 : decode cX2_init 48 = .ok (.iconst (-1), 1) := by decide +kernel
theorem dX2_init_49 : decode cX2_init 49 = .ok (.invokestatic 28, 3) := by decide +kernel
theorem dX2_init_52 : decode cX2_init 52 = .ok (.return_, 1) := by decide +kernel
theorem dX2_setQuestion_0 : decode cX2_setQuestion 0 = .ok (.aload_n 0, 1) := by decide +kernel
theorem dX2_setQuestion_1 : decode cX2_setQuestion 1 = .ok (.getfield 9, 3) := by decide +kernel
theorem dX2_setQuestion_4 : decode cX2_setQuestion 4 = .ok (.iload_n 1, 1) := by decide +kernel
theorem dX2_setQuestion_5 : decode cX2_setQuestion 5 = .ok (.iload_n 2, 1) := by decide +kernel
theorem dX2_setQuestion_6 : decode cX2_setQuestion 6 = .ok (.iastore, 1) := by decide +kernel
theorem dX2_setQuestion_7 : decode cX2_setQuestion 7 = .ok (.aload_n 0, 1) := by decide +kernel
theorem dX2_setQuestion_8 : decode cX2_setQuestion 8 = .ok (.getfield 15, 3) := by decide +kernel
theorem dX2_setQuestion_11 : decode cX2_setQuestion 11 = .ok (.iload_n 1, 1) := by decide +kernel
theorem dX2_setQuestion_12 : decode cX2_setQuestion 12 = .ok (.iload_n 3, 1) := by decide +kernel
theorem dX2_setQuestion_13 : decode cX2_setQuestion 13 = .ok (.iastore, 1) := by decide +kernel
theorem dX2_setQuestion_14 : decode cX2_setQuestion 14 = .ok (.aload_n 0, 1) := by decide +kernel
theorem dX2_setQuestion_15 : decode cX2_setQuestion 15 = .ok (.getfield 18, 3) := by decide +kernel
theorem dX2_setQuestion_18 : decode cX2_setQuestion 18 = .ok (.iload_n 1, 1) := by decide +kernel
theorem dX2_setQuestion_19 : decode cX2_setQuestion 19 = .ok (.iload 4, 2) := by decide +kernel
theorem dX2_setQuestion_21 : decode cX2_setQuestion 21 = .ok (.iastore, 1) := by decide +kernel
theorem dX2_setQuestion_22 : decode cX2_setQuestion 22 = .ok (.return_, 1) := by decide +kernel
theorem dX2_setTargets_0 : decode cX2_setTargets 0 = .ok (.aload_n 0, 1) := by decide +kernel
theorem dX2_setTargets_1 : decode cX2_setTargets 1 = .ok (.getfield 21, 3) := by decide +kernel
theorem dX2_setTargets_4 : decode cX2_setTargets 4 = .ok (.iconst 2, 1) := by decide +kernel
theorem dX2_setTargets_5 : decode cX2_setTargets 5 = .ok (.iload_n 1, 1) := by decide +kernel
theorem dX2_setTargets_6 : decode cX2_setTargets 6 = .ok (.imul, 1) := by decide +kernel
theorem dX2_setTargets_7 : decode cX2_setTargets 7 = .ok (.iload_n 2, 1) := by decide +kernel
theorem dX2_setTargets_8 : decode cX2_setTargets 8 = .ok (.iastore, 1) := by decide +kernel
theorem dX2_setTargets_9 : decode cX2_setTargets 9 = .ok (.aload_n 0, 1) := by decide +kernel
theorem dX2_setTargets_10 : decode cX2_setTargets 10 = .ok (.getfield 21, 3) := by decide +kernel
theorem dX2_setTargets_13 : decode cX2_setTargets 13 = .ok (.iconst 2, 1) := by decide +kernel
theorem dX2_setTargets_14 : decode cX2_setTargets 14 = .ok (.iload_n 1, 1) := by decide +kernel
theorem dX2_setTargets_15 : decode cX2_setTargets 15 = .ok (.imul, 1) := by decide +kernel
theorem dX2_setTargets_16 : decode cX2_setTargets 16 = .ok (.iconst 1, 1) := by decide +kernel
theorem dX2_setTargets_17 : decode cX2_setTargets 17 = .ok (.iadd, 1) := by decide +kernel
theorem dX2_setTargets_18 : decode cX2_setTargets 18 = .ok (.iload_n 3, 1) := by decide +kernel
theorem dX2_setTargets_19 : decode cX2_setTargets 19 = .ok (.iastore, 1) := by decide +kernel
theorem dX2_setTargets_20 : decode cX2_setTargets 20 = .ok (.return_, 1) := by decide +kernel
theorem dX2_setBad_0 : decode cX2_setBad 0 = .ok (.aload_n 0, 1) := by decide +kernel
theorem dX2_setBad_1 : decode cX2_setBad 1 = .ok (.getfield 24, 3) := by decide +kernel
theorem dX2_setBad_4 : decode cX2_setBad 4 = .ok (.iload_n 1, 1) := by decide +kernel
theorem dX2_setBad_5 : decode cX2_setBad 5 = .ok (.iload_n 2, 1) := by decide +kernel
theorem dX2_setBad_6 : decode cX2_setBad 6 = .ok (.bastore, 1) := by decide +kernel
theorem dX2_setBad_7 : decode cX2_setBad 7 = .ok (.return_, 1) := by decide +kernel
set_option maxRecDepth 20000 in
theorem ggX2_follow_X4_begin : GoodIn wsX2_follow wsX4_begin := goodIn_r _ [7, 8, 9, 10, 42, 43, 44, 45] (by decide +kernel) (by decide +kernel)
set_option maxRecDepth 20000 in
theorem gX2_follow_X4_begin : GoodIn wsX2_follow (wsV RX2 34 RX4 yX4_begin wsX4_begin) := goodIn_app (goodIn_of _ (by decide +kernel)) ggX2_follow_X4_begin
set_option maxRecDepth 20000 in
theorem ggX2_follow_X5_isNode : GoodIn wsX2_follow wsX5_isNode := goodIn_r _ [13] (by decide +kernel) (by decide +kernel)
set_option maxRecDepth 20000 in
theorem gX2_follow_X5_isNode_n39 : GoodIn wsX2_follow (wsX5_isNode) := ggX2_follow_X5_isNode
set_option maxRecDepth 20000 in
theorem ggX2_follow_X2_isSo : GoodIn wsX2_follow wsX2_isSo := goodIn_r _ [18, 19, 20, 21, 22, 12, 23, 37, 38, 39, 40, 41] (by decide +kernel) (by decide +kernel)
set_option maxRecDepth 20000 in
theorem gX2_follow_X2_isSo : GoodIn wsX2_follow (wsV RX2 43 RX2 yX2_isSo wsX2_isSo) := goodIn_app (goodIn_of _ (by decide +kernel)) ggX2_follow_X2_isSo
set_option maxRecDepth 20000 in
theorem ggX2_follow_X4_goOver : GoodIn wsX2_follow wsX4_goOver := goodIn_r _ [27, 8, 28, 9, 10, 29, 12, 30, 42, 43, 44, 45] (by decide +kernel) (by decide +kernel)
set_option maxRecDepth 20000 in
theorem gX2_follow_X4_goOver : GoodIn wsX2_follow (wsV RX2 47 RX4 yX4_goOver wsX4_goOver) := goodIn_app (goodIn_of _ (by decide +kernel)) ggX2_follow_X4_goOver
set_option maxRecDepth 20000 in
theorem ggX2_follow_X4_fail : GoodIn wsX2_follow wsX4_fail := goodIn_r _ [34, 10, 9, 35, 12, 36, 29, 30, 42, 43, 44, 45] (by decide +kernel) (by decide +kernel)
set_option maxRecDepth 20000 in
theorem gX2_follow_X4_fail : GoodIn wsX2_follow (wsV RX2 51 RX4 yX4_fail wsX4_fail) := goodIn_app (goodIn_of _ (by decide +kernel)) ggX2_follow_X4_fail
theorem dX2_follow_0 : decode cX2_follow 0 = .ok (.aload_n 2, 1) := by decide +kernel
theorem dX2_follow_1 : decode cX2_follow 1 = .ok (.invokevirtual 34, 3) := by decide +kernel
theorem dX2_follow_4 : decode cX2_follow 4 = .ok (.iconst 0, 1) := by decide +kernel
theorem dX2_follow_5 : decode cX2_follow 5 = .ok (.istore_n 3, 1) := by decide +kernel
theorem dX2_follow_6 : decode cX2_follow 6 = .ok (.iconst 0, 1) := by decide +kernel
theorem dX2_follow_7 : decode cX2_follow 7 = .ok (.istore 4, 2) := by decide +kernel
theorem dX2_follow_9 : decode cX2_follow 9 = .ok (.iload 4, 2) := by decide +kernel
theorem dX2_follow_11 : decode cX2_follow 11 = .ok (.bipush 30, 2) := by decide +kernel
theorem dX2_follow_13 : decode cX2_follow 13 = .ok (.if_icmp .ge 61, 3) := by decide +kernel
theorem dX2_follow_16 : decode cX2_follow 16 = .ok (.iload_n 3, 1) := by decide +kernel
theorem dX2_follow_17 : decode cX2_follow 17 = .ok (.invokestatic 39, 3) := by decide +kernel
theorem dX2_follow_20 : decode cX2_follow 20 = .ok (.ifCond .eq 54, 3) := by decide +kernel
theorem dX2_follow_23 : decode cX2_follow 23 = .ok (.aload_n 0, 1) := by decide +kernel
theorem dX2_follow_24 : decode cX2_follow 24 = .ok (.getfield 24, 3) := by decide +kernel
theorem dX2_follow_27 : decode cX2_follow 27 = .ok (.iload_n 3, 1) := by decide +kernel
theorem dX2_follow_28 : decode cX2_follow 28 = .ok (.baload, 1) := by decide +kernel
theorem dX2_follow_29 : decode cX2_follow 29 = .ok (.ifCond .ne 45, 3) := by decide +kernel
theorem dX2_follow_32 : decode cX2_follow 32 = .ok (.aload_n 0, 1) := by decide +kernel
theorem dX2_follow_33 : decode cX2_follow 33 = .ok (.iload_n 3, 1) := by decide +kernel
theorem dX2_follow_34 : decode cX2_follow 34 = .ok (.iload_n 1, 1) := by decide +kernel
theorem dX2_follow_35 : decode cX2_follow 35 = .ok (.invokevirtual 43, 3) := by decide +kernel
theorem dX2_follow_38 : decode cX2_follow 38 = .ok (.ifCond .eq 9, 3) := by decide +kernel
theorem dX2_follow_41 : decode cX2_follow 41 = .ok (.iconst 2, 1) := by decide +kernel
theorem dX2_follow_42 : decode cX2_follow 42 = .ok (.iload_n 3, 1) := by decide +kernel
theorem dX2_follow_43 : decode cX2_follow 43 = .ok (.imul, 1) := by decide +kernel
theorem dX2_follow_44 : decode cX2_follow 44 = .ok (.goto 8, 3) := by decide +kernel
theorem dX2_follow_47 : decode cX2_follow 47 = .ok (.iconst 2, 1) := by decide +kernel
theorem dX2_follow_48 : decode cX2_follow 48 = .ok (.iload_n 3, 1) := by decide +kernel
theorem dX2_follow_49 : decode cX2_follow 49 = .ok (.imul, 1) := by decide +kernel
theorem dX2_follow_50 : decode cX2_follow 50 = .ok (.iconst 1, 1) := by decide +kernel
theorem dX2_follow_51 : decode cX2_follow 51 = .ok (.iadd, 1) := by decide +kernel
theorem dX2_follow_52 : decode cX2_follow 52 = .ok (.istore 5, 2) := by decide +kernel
theorem dX2_follow_54 : decode cX2_follow 54 = .ok (.aload_n 2, 1) := by decide +kernel
theorem dX2_follow_55 : decode cX2_follow 55 = .ok (.iload 5, 2) := by decide +kernel
theorem dX2_follow_57 : decode cX2_follow 57 = .ok (.invokevirtual 47, 3) := by decide +kernel
theorem dX2_follow_60 : decode cX2_follow 60 = .ok (.aload_n 0, 1) := by decide +kernel
theorem dX2_follow_61 : decode cX2_follow 61 = .ok (.getfield 21, 3) := by decide +kernel
theorem dX2_follow_64 : decode cX2_follow 64 = .ok (.iload 5, 2) := by decide +kernel
theorem dX2_follow_66 : decode cX2_follow 66 = .ok (.iaload, 1) := by decide +kernel
theorem dX2_follow_67 : decode cX2_follow 67 = .ok (.istore_n 3, 1) := by decide +kernel
theorem dX2_follow_68 : decode cX2_follow 68 = .ok (.iinc 4 1, 3) := by decide +kernel
theorem dX2_follow_71 : decode cX2_follow 71 = .ok (.goto (-62), 3) := by decide +kernel
theorem dX2_follow_74 : decode cX2_follow 74 = .ok (.iload_n 3, 1) := by decide +kernel
theorem dX2_follow_75 : decode cX2_follow 75 = .ok (.invokestatic 39, 3) := by decide +kernel
theorem dX2_follow_78 : decode cX2_follow 78 = .ok (.ifCond .eq 22, 3) := by decide +kernel
theorem dX2_follow_81 : decode cX2_follow 81 = .ok (.aload_n 2, 1) := by decide +kernel
theorem dX2_follow_82 : decode cX2_follow 82 = .ok (.aload_n 0, 1) := by decide +kernel
theorem dX2_follow_83 : decode cX2_follow 83 = .ok (.getfield 24, 3) := by decide +kernel
theorem dX2_follow_86 : decode cX2_follow 86 = .ok (.iload_n 3, 1) := by decide +kernel
theorem dX2_follow_87 : decode cX2_follow 87 = .ok (.baload, 1) := by decide +kernel
theorem dX2_follow_88 : decode cX2_follow 88 = .ok (.ifCond .eq 7, 3) := by decide +kernel
theorem dX2_follow_91 : decode cX2_follow 91 = .ok (.iload_n 3, 1) := by decide +kernel
theorem dX2_follow_92 : decode cX2_follow 92 = .ok (.goto 5, 3) := by decide +kernel
theorem dX2_follow_95 : decode cX2_follow 95 = .ok (.bipush 12, 2) := by decide +kernel
theorem dX2_follow_97 : decode cX2_follow 97 = .ok (.invokevirtual 51, 3) := by decide +kernel
theorem dX2_follow_100 : decode cX2_follow 100 = .ok (.return_, 1) := by decide +kernel
set_option maxRecDepth 20000 in
theorem ggX2_isSo_X5_valueOf : GoodIn wsX2_isSo wsX5_valueOf := goodIn_r _ [6] (by decide +kernel) (by decide +kernel)
set_option maxRecDepth 20000 in
theorem gX2_isSo_X5_valueOf_n54 : GoodIn wsX2_isSo (wsX5_valueOf) := ggX2_isSo_X5_valueOf
theorem dX2_isSo_0 : decode cX2_isSo 0 = .ok (.iload_n 2, 1) := by decide +kernel
theorem dX2_isSo_1 : decode cX2_isSo 1 = .ok (.aload_n 0, 1) := by decide +kernel
theorem dX2_isSo_2 : decode cX2_isSo 2 = .ok (.getfield 9, 3) := by decide +kernel
theorem dX2_isSo_5 : decode cX2_isSo 5 = .ok (.iload_n 1, 1) := by decide +kernel
theorem dX2_isSo_6 : decode cX2_isSo 6 = .ok (.iaload, 1) := by decide +kernel
theorem dX2_isSo_7 : decode cX2_isSo 7 = .ok (.invokestatic 54, 3) := by decide +kernel
theorem dX2_isSo_10 : decode cX2_isSo 10 = .ok (.istore_n 3, 1) := by decide +kernel
theorem dX2_isSo_11 : decode cX2_isSo 11 = .ok (.aload_n 0, 1) := by decide +kernel
theorem dX2_isSo_12 : decode cX2_isSo 12 = .ok (.getfield 15, 3) := by decide +kernel
theorem dX2_isSo_15 : decode cX2_isSo 15 = .ok (.iload_n 1, 1) := by decide +kernel
theorem dX2_isSo_16 : decode cX2_isSo 16 = .ok (.iaload, 1) := by decide +kernel
theorem dX2_isSo_17 : decode cX2_isSo 17 = .ok (.lookupswitch 59 #[(0, 27), (1, 43)], 27) := by decide +kernel
theorem dX2_isSo_44 : decode cX2_isSo 44 = .ok (.iload_n 3, 1) := by decide +kernel
theorem dX2_isSo_45 : decode cX2_isSo 45 = .ok (.aload_n 0, 1) := by decide +kernel
theorem dX2_isSo_46 : decode cX2_isSo 46 = .ok (.getfield 18, 3) := by decide +kernel
theorem dX2_isSo_49 : decode cX2_isSo 49 = .ok (.iload_n 1, 1) := by decide +kernel
theorem dX2_isSo_50 : decode cX2_isSo 50 = .ok (.iaload, 1) := by decide +kernel
theorem dX2_isSo_51 : decode cX2_isSo 51 = .ok (.if_icmp .ge 7, 3) := by decide +kernel
theorem dX2_isSo_54 : decode cX2_isSo 54 = .ok (.iconst 1, 1) := by decide +kernel
theorem dX2_isSo_55 : decode cX2_isSo 55 = .ok (.goto 4, 3) := by decide +kernel
theorem dX2_isSo_58 : decode cX2_isSo 58 = .ok (.iconst 0, 1) := by decide +kernel
theorem dX2_isSo_59 : decode cX2_isSo 59 = .ok (.ireturn, 1) := by decide +kernel
theorem dX2_isSo_60 : decode cX2_isSo 60 = .ok (.iload_n 3, 1) := by decide +kernel
theorem dX2_isSo_61 : decode cX2_isSo 61 = .ok (.aload_n 0, 1) := by decide +kernel
theorem dX2_isSo_62 : decode cX2_isSo 62 = .ok (.getfield 18, 3) := by decide +kernel
theorem dX2_isSo_65 : decode cX2_isSo 65 = .ok (.iload_n 1, 1) := by decide +kernel
theorem dX2_isSo_66 : decode cX2_isSo 66 = .ok (.iaload, 1) := by decide +kernel
theorem dX2_isSo_67 : decode cX2_isSo 67 = .ok (.if_icmp .ne 7, 3) := by decide +kernel
theorem dX2_isSo_70 : decode cX2_isSo 70 = .ok (.iconst 1, 1) := by decide +kernel
theorem dX2_isSo_71 : decode cX2_isSo 71 = .ok (.goto 4, 3) := by decide +kernel
theorem dX2_isSo_74 : decode cX2_isSo 74 = .ok (.iconst 0, 1) := by decide +kernel
theorem dX2_isSo_75 : decode cX2_isSo 75 = .ok (.ireturn, 1) := by decide +kernel
theorem dX2_isSo_76 : decode cX2_isSo 76 = .ok (.iload_n 3, 1) := by decide +kernel
theorem dX2_isSo_77 : decode cX2_isSo 77 = .ok (.aload_n 0, 1) := by decide +kernel
theorem dX2_isSo_78 : decode cX2_isSo 78 = .ok (.getfield 18, 3) := by decide +kernel
theorem dX2_isSo_81 : decode cX2_isSo 81 = .ok (.iload_n 1, 1) := by decide +kernel
theorem dX2_isSo_82 : decode cX2_isSo 82 = .ok (.iaload, 1) := by decide +kernel
theorem dX2_isSo_83 : decode cX2_isSo 83 = .ok (.if_icmp .le 7, 3) := by decide +kernel
theorem dX2_isSo_86 : decode cX2_isSo 86 = .ok (.iconst 1, 1) := by decide +kernel
theorem dX2_isSo_87 : decode cX2_isSo 87 = .ok (.goto 4, 3) := by decide +kernel
theorem dX2_isSo_90 : decode cX2_isSo 90 = .ok (.iconst 0, 1) := by decide +kernel
theorem dX2_isSo_91 : decode cX2_isSo 91 = .ok (.ireturn, 1) := by decide +kernel
set_option maxRecDepth 20000 in
theorem ggX2_reachableNodes_X5_contains : GoodIn wsX2_reachableNodes wsX5_contains := goodIn_r _ [4] (by decide +kernel) (by decide +kernel)
set_option maxRecDepth 20000 in
theorem gX2_reachableNodes_X5_contains_n58 : GoodIn wsX2_reachableNodes (wsX5_contains) := ggX2_reachableNodes_X5_contains
set_option maxRecDepth 20000 in
theorem ggX2_reachableNodes_X5_isNode : GoodIn wsX2_reachableNodes wsX5_isNode := goodIn_r _ [6] (by decide +kernel) (by decide +kernel)
set_option maxRecDepth 20000 in
theorem gX2_reachableNodes_X5_isNode_n39 : GoodIn wsX2_reachableNodes (wsX5_isNode) := ggX2_reachableNodes_X5_isNode
set_option maxRecDepth 20000 in
theorem ggX2_reachableNodes_X5_bit : GoodIn wsX2_reachableNodes wsX5_bit := goodIn_r _ [8] (by decide +kernel) (by decide +kernel)
set_option maxRecDepth 20000 in
theorem gX2_reachableNodes_X5_bit_n62 : GoodIn wsX2_reachableNodes (wsX5_bit) := ggX2_reachableNodes_X5_bit
set_option maxRecDepth 20000 in
theorem ggX2_reachableNodes_J13_bitCount_95d88 : GoodIn wsX2_reachableNodes wsJ13_bitCount_95d88 := goodIn_r _ [12, 13, 14, 15] (by decide +kernel) (by decide +kernel)
set_option maxRecDepth 20000 in
theorem gX2_reachableNodes_J13_bitCount_95d88 : GoodIn wsX2_reachableNodes (va_wsS RX2 66 yJ13_bitCount_95d88 wsJ13_bitCount_95d88) := goodIn_app (goodIn_of _ (by decide +kernel)) ggX2_reachableNodes_J13_bitCount_95d88
theorem dX2_reachableNodes_0 : decode cX2_reachableNodes 0 = .ok (.lconst 1, 1) := by decide +kernel
theorem dX2_reachableNodes_1 : decode cX2_reachableNodes 1 = .ok (.lstore_n 1, 1) := by decide +kernel
theorem dX2_reachableNodes_2 : decode cX2_reachableNodes 2 = .ok (.iconst 0, 1) := by decide +kernel
theorem dX2_reachableNodes_3 : decode cX2_reachableNodes 3 = .ok (.istore_n 3, 1) := by decide +kernel
theorem dX2_reachableNodes_4 : decode cX2_reachableNodes 4 = .ok (.iload_n 3, 1) := by decide +kernel
theorem dX2_reachableNodes_5 : decode cX2_reachableNodes 5 = .ok (.bipush 12, 2) := by decide +kernel
theorem dX2_reachableNodes_7 : decode cX2_reachableNodes 7 = .ok (.if_icmp .ge 62, 3) := by decide +kernel
theorem dX2_reachableNodes_10 : decode cX2_reachableNodes 10 = .ok (.iconst 0, 1) := by decide +kernel
theorem dX2_reachableNodes_11 : decode cX2_reachableNodes 11 = .ok (.istore 4, 2) := by decide +kernel
theorem dX2_reachableNodes_13 : decode cX2_reachableNodes 13 = .ok (.iload 4, 2) := by decide +kernel
theorem dX2_reachableNodes_15 : decode cX2_reachableNodes 15 = .ok (.bipush 24, 2) := by decide +kernel
theorem dX2_reachableNodes_17 : decode cX2_reachableNodes 17 = .ok (.if_icmp .ge 46, 3) := by decide +kernel
theorem dX2_reachableNodes_20 : decode cX2_reachableNodes 20 = .ok (.lload_n 1, 1) := by decide +kernel
theorem dX2_reachableNodes_21 : decode cX2_reachableNodes 21 = .ok (.iload 4, 2) := by decide +kernel
theorem dX2_reachableNodes_23 : decode cX2_reachableNodes 23 = .ok (.iconst 2, 1) := by decide +kernel
theorem dX2_reachableNodes_24 : decode cX2_reachableNodes 24 = .ok (.idiv, 1) := by decide +kernel
theorem dX2_reachableNodes_25 : decode cX2_reachableNodes 25 = .ok (.invokestatic 58, 3) := by decide +kernel
theorem dX2_reachableNodes_28 : decode cX2_reachableNodes 28 = .ok (.ifCond .eq 29, 3) := by decide +kernel
theorem dX2_reachableNodes_31 : decode cX2_reachableNodes 31 = .ok (.aload_n 0, 1) := by decide +kernel
theorem dX2_reachableNodes_32 : decode cX2_reachableNodes 32 = .ok (.getfield 21, 3) := by decide +kernel
theorem dX2_reachableNodes_35 : decode cX2_reachableNodes 35 = .ok (.iload 4, 2) := by decide +kernel
theorem dX2_reachableNodes_37 : decode cX2_reachableNodes 37 = .ok (.iaload, 1) := by decide +kernel
theorem dX2_reachableNodes_38 : decode cX2_reachableNodes 38 = .ok (.invokestatic 39, 3) := by decide +kernel
theorem dX2_reachableNodes_41 : decode cX2_reachableNodes 41 = .ok (.ifCond .eq 16, 3) := by decide +kernel
theorem dX2_reachableNodes_44 : decode cX2_reachableNodes 44 = .ok (.lload_n 1, 1) := by decide +kernel
theorem dX2_reachableNodes_45 : decode cX2_reachableNodes 45 = .ok (.aload_n 0, 1) := by decide +kernel
theorem dX2_reachableNodes_46 : decode cX2_reachableNodes 46 = .ok (.getfield 21, 3) := by decide +kernel
theorem dX2_reachableNodes_49 : decode cX2_reachableNodes 49 = .ok (.iload 4, 2) := by decide +kernel
theorem dX2_reachableNodes_51 : decode cX2_reachableNodes 51 = .ok (.iaload, 1) := by decide +kernel
theorem dX2_reachableNodes_52 : decode cX2_reachableNodes 52 = .ok (.invokestatic 62, 3) := by decide +kernel
theorem dX2_reachableNodes_55 : decode cX2_reachableNodes 55 = .ok (.lor, 1) := by decide +kernel
theorem dX2_reachableNodes_56 : decode cX2_reachableNodes 56 = .ok (.lstore_n 1, 1) := by decide +kernel
theorem dX2_reachableNodes_57 : decode cX2_reachableNodes 57 = .ok (.iinc 4 1, 3) := by decide +kernel
theorem dX2_reachableNodes_60 : decode cX2_reachableNodes 60 = .ok (.goto (-47), 3) := by decide +kernel
theorem dX2_reachableNodes_63 : decode cX2_reachableNodes 63 = .ok (.iinc 3 1, 3) := by decide +kernel
theorem dX2_reachableNodes_66 : decode cX2_reachableNodes 66 = .ok (.goto (-62), 3) := by decide +kernel
theorem dX2_reachableNodes_69 : decode cX2_reachableNodes 69 = .ok (.lload_n 1, 1) := by decide +kernel
theorem dX2_reachableNodes_70 : decode cX2_reachableNodes 70 = .ok (.invokestatic 66, 3) := by decide +kernel
theorem dX2_reachableNodes_73 : decode cX2_reachableNodes 73 = .ok (.ireturn, 1) := by decide +kernel
theorem dX3_init_0 : decode cX3_init 0 = .ok (.aload_n 0, 1) := by decide +kernel
theorem dX3_init_1 : decode cX3_init 1 = .ok (.invokespecial 3, 3) := by decide +kernel
theorem dX3_init_4 : decode cX3_init 4 = .ok (.aload_n 0, 1) := by decide +kernel
theorem dX3_init_5 : decode cX3_init 5 = .ok (.bipush 6, 2) := by decide +kernel
theorem dX3_init_7 : decode cX3_init 7 = .ok (.newarray .int, 2) := by decide +kernel
theorem dX3_init_9 : decode cX3_init 9 = .ok (.putfield 9, 3) := by decide +kernel
theorem dX3_init_12 : decode cX3_init 12 = .ok (.aload_n 0, 1) := by decide +kernel
theorem dX3_init_13 : decode cX3_init 13 = .ok (.bipush 6, 2) := by decide +kernel
theorem dX3_init_15 : decode cX3_init 15 = .ok (.newarray .int, 2) := by decide +kernel
theorem dX3_init_17 : decode cX3_init 17 = .ok (.putfield 15, 3) := by decide +kernel
theorem dX3_init_20 : decode cX3_init 20 = .ok (.aload_n 0, 1) := by decide +kernel
theorem dX3_init_21 : decode cX3_init 21 = .ok (.bipush 6, 2) := by decide +kernel
theorem dX3_init_23 : decode cX3_init 23 = .ok (.newarray .int, 2) := by decide +kernel
theorem dX3_init_25 : decode cX3_init 25 = .ok (.putfield 18, 3) := by decide +kernel
theorem dX3_init_28 : decode cX3_init 28 = .ok (.return_, 1) := by decide +kernel
theorem dX3_add_0 : decode cX3_add 0 = .ok (.aload_n 0, 1) := by decide +kernel
theorem dX3_add_1 : decode cX3_add 1 = .ok (.getfield 9, 3) := by decide +kernel
theorem dX3_add_4 : decode cX3_add 4 = .ok (.aload_n 0, 1) := by decide +kernel
theorem dX3_add_5 : decode cX3_add 5 = .ok (.getfield 21, 3) := by decide +kernel
theorem dX3_add_8 : decode cX3_add 8 = .ok (.iload_n 1, 1) := by decide +kernel
theorem dX3_add_9 : decode cX3_add 9 = .ok (.iastore, 1) := by decide +kernel
theorem dX3_add_10 : decode cX3_add 10 = .ok (.aload_n 0, 1) := by decide +kernel
theorem dX3_add_11 : decode cX3_add 11 = .ok (.getfield 15, 3) := by decide +kernel
theorem dX3_add_14 : decode cX3_add 14 = .ok (.aload_n 0, 1) := by decide +kernel
theorem dX3_add_15 : decode cX3_add 15 = .ok (.getfield 21, 3) := by decide +kernel
theorem dX3_add_18 : decode cX3_add 18 = .ok (.iload_n 2, 1) := by decide +kernel
theorem dX3_add_19 : decode cX3_add 19 = .ok (.iastore, 1) := by decide +kernel
theorem dX3_add_20 : decode cX3_add 20 = .ok (.aload_n 0, 1) := by decide +kernel
theorem dX3_add_21 : decode cX3_add 21 = .ok (.getfield 18, 3) := by decide +kernel
theorem dX3_add_24 : decode cX3_add 24 = .ok (.aload_n 0, 1) := by decide +kernel
theorem dX3_add_25 : decode cX3_add 25 = .ok (.getfield 21, 3) := by decide +kernel
theorem dX3_add_28 : decode cX3_add 28 = .ok (.iload_n 3, 1) := by decide +kernel
theorem dX3_add_29 : decode cX3_add 29 = .ok (.iastore, 1) := by decide +kernel
theorem dX3_add_30 : decode cX3_add 30 = .ok (.aload_n 0, 1) := by decide +kernel
theorem dX3_add_31 : decode cX3_add 31 = .ok (.dup, 1) := by decide +kernel
theorem dX3_add_32 : decode cX3_add 32 = .ok (.getfield 21, 3) := by decide +kernel
theorem dX3_add_35 : decode cX3_add 35 = .ok (.iconst 1, 1) := by decide +kernel
theorem dX3_add_36 : decode cX3_add 36 = .ok (.iadd, 1) := by decide +kernel
theorem dX3_add_37 : decode cX3_add 37 = .ok (.putfield 21, 3) := by decide +kernel
theorem dX3_add_40 : decode cX3_add 40 = .ok (.aload_n 0, 1) := by decide +kernel
theorem dX3_add_41 : decode cX3_add 41 = .ok (.getfield 21, 3) := by decide +kernel
theorem dX3_add_44 : decode cX3_add 44 = .ok (.iconst 1, 1) := by decide +kernel
theorem dX3_add_45 : decode cX3_add 45 = .ok (.isub, 1) := by decide +kernel
theorem dX3_add_46 : decode cX3_add 46 = .ok (.ireturn, 1) := by decide +kernel
set_option maxRecDepth 20000 in
theorem ggX3_changed_X5_valueOf : GoodIn wsX3_changed wsX5_valueOf := goodIn_r _ [10] (by decide +kernel) (by decide +kernel)
set_option maxRecDepth 20000 in
theorem gX3_changed_X5_valueOf_n25 : GoodIn wsX3_changed (wsX5_valueOf) := ggX3_changed_X5_valueOf
set_option maxRecDepth 20000 in
theorem ggX3_changed_X5_withValue : GoodIn wsX3_changed wsX5_withValue := goodIn_r _ [12, 13, 8, 9, 10, 14, 15, 16] (by decide +kernel) (by decide +kernel)
set_option maxRecDepth 20000 in
theorem gX3_changed_X5_withValue_n34 : GoodIn wsX3_changed (wsX5_withValue) := ggX3_changed_X5_withValue
theorem dX3_changed_0 : decode cX3_changed 0 = .ok (.aload_n 0, 1) := by decide +kernel
theorem dX3_changed_1 : decode cX3_changed 1 = .ok (.getfield 15, 3) := by decide +kernel
theorem dX3_changed_4 : decode cX3_changed 4 = .ok (.iload_n 1, 1) := by decide +kernel
theorem dX3_changed_5 : decode cX3_changed 5 = .ok (.iaload, 1) := by decide +kernel
theorem dX3_changed_6 : decode cX3_changed 6 = .ok (.istore_n 3, 1) := by decide +kernel
theorem dX3_changed_7 : decode cX3_changed 7 = .ok (.iload_n 2, 1) := by decide +kernel
theorem dX3_changed_8 : decode cX3_changed 8 = .ok (.iload_n 3, 1) := by decide +kernel
theorem dX3_changed_9 : decode cX3_changed 9 = .ok (.invokestatic 25, 3) := by decide +kernel
theorem dX3_changed_12 : decode cX3_changed 12 = .ok (.istore 4, 2) := by decide +kernel
theorem dX3_changed_14 : decode cX3_changed 14 = .ok (.aload_n 0, 1) := by decide +kernel
theorem dX3_changed_15 : decode cX3_changed 15 = .ok (.getfield 9, 3) := by decide +kernel
theorem dX3_changed_18 : decode cX3_changed 18 = .ok (.iload_n 1, 1) := by decide +kernel
theorem dX3_changed_19 : decode cX3_changed 19 = .ok (.iaload, 1) := by decide +kernel
theorem dX3_changed_20 : decode cX3_changed 20 = .ok (.iconst 1, 1) := by decide +kernel
theorem dX3_changed_21 : decode cX3_changed 21 = .ok (.if_icmp .ne 18, 3) := by decide +kernel
theorem dX3_changed_24 : decode cX3_changed 24 = .ok (.iload_n 2, 1) := by decide +kernel
theorem dX3_changed_25 : decode cX3_changed 25 = .ok (.iload_n 3, 1) := by decide +kernel
theorem dX3_changed_26 : decode cX3_changed 26 = .ok (.iload 4, 2) := by decide +kernel
theorem dX3_changed_28 : decode cX3_changed 28 = .ok (.iconst 1, 1) := by decide +kernel
theorem dX3_changed_29 : decode cX3_changed 29 = .ok (.iadd, 1) := by decide +kernel
theorem dX3_changed_30 : decode cX3_changed 30 = .ok (.bipush 9, 2) := by decide +kernel
theorem dX3_changed_32 : decode cX3_changed 32 = .ok (.invokestatic 29, 3) := by decide +kernel
theorem dX3_changed_35 : decode cX3_changed 35 = .ok (.invokestatic 34, 3) := by decide +kernel
theorem dX3_changed_38 : decode cX3_changed 38 = .ok (.ireturn, 1) := by decide +kernel
theorem dX3_changed_39 : decode cX3_changed 39 = .ok (.aload_n 0, 1) := by decide +kernel
theorem dX3_changed_40 : decode cX3_changed 40 = .ok (.getfield 18, 3) := by decide +kernel
theorem dX3_changed_43 : decode cX3_changed 43 = .ok (.iload_n 1, 1) := by decide +kernel
theorem dX3_changed_44 : decode cX3_changed 44 = .ok (.iaload, 1) := by decide +kernel
theorem dX3_changed_45 : decode cX3_changed 45 = .ok (.istore 5, 2) := by decide +kernel
theorem dX3_changed_47 : decode cX3_changed 47 = .ok (.iload_n 2, 1) := by decide +kernel
theorem dX3_changed_48 : decode cX3_changed 48 = .ok (.iload_n 3, 1) := by decide +kernel
theorem dX3_changed_49 : decode cX3_changed 49 = .ok (.iload_n 2, 1) := by decide +kernel
theorem dX3_changed_50 : decode cX3_changed 50 = .ok (.iload 5, 2) := by decide +kernel
theorem dX3_changed_52 : decode cX3_changed 52 = .ok (.invokestatic 25, 3) := by decide +kernel
theorem dX3_changed_55 : decode cX3_changed 55 = .ok (.invokestatic 34, 3) := by decide +kernel
theorem dX3_changed_58 : decode cX3_changed 58 = .ok (.iload 5, 2) := by decide +kernel
theorem dX3_changed_60 : decode cX3_changed 60 = .ok (.iload 4, 2) := by decide +kernel
theorem dX3_changed_62 : decode cX3_changed 62 = .ok (.invokestatic 34, 3) := by decide +kernel
theorem dX3_changed_65 : decode cX3_changed 65 = .ok (.ireturn, 1) := by decide +kernel
theorem dX4_init_0 : decode cX4_init 0 = .ok (.aload_n 0, 1) := by decide +kernel
theorem dX4_init_1 : decode cX4_init 1 = .ok (.invokespecial 3, 3) := by decide +kernel
theorem dX4_init_4 : decode cX4_init 4 = .ok (.aload_n 0, 1) := by decide +kernel
theorem dX4_init_5 : decode cX4_init 5 = .ok (.bipush 30, 2) := by decide +kernel
theorem dX4_init_7 : decode cX4_init 7 = .ok (.newarray .int, 2) := by decide +kernel
theorem dX4_init_9 : decode cX4_init 9 = .ok (.putfield 9, 3) := by decide +kernel
theorem dX4_init_12 : decode cX4_init 12 = .ok (.return_, 1) := by decide +kernel
theorem dX4_begin_0 : decode cX4_begin 0 = .ok (.aload_n 0, 1) := by decide +kernel
theorem dX4_begin_1 : decode cX4_begin 1 = .ok (.iconst 0, 1) := by decide +kernel
theorem dX4_begin_2 : decode cX4_begin 2 = .ok (.putfield 15, 3) := by decide +kernel
theorem dX4_begin_5 : decode cX4_begin 5 = .ok (.aload_n 0, 1) := by decide +kernel
theorem dX4_begin_6 : decode cX4_begin 6 = .ok (.lconst 0, 1) := by decide +kernel
theorem dX4_begin_7 : decode cX4_begin 7 = .ok (.putfield 19, 3) := by decide +kernel
theorem dX4_begin_10 : decode cX4_begin 10 = .ok (.aload_n 0, 1) := by decide +kernel
theorem dX4_begin_11 : decode cX4_begin 11 = .ok (.iconst (-1), 1) := by decide +kernel
theorem dX4_begin_12 : decode cX4_begin 12 = .ok (.putfield 23, 3) := by decide +kernel
theorem dX4_begin_15 : decode cX4_begin 15 = .ok (.return_, 1) := by decide +kernel
set_option maxRecDepth 20000 in
theorem ggX4_goOver_X5_bit : GoodIn wsX4_goOver wsX5_bit := goodIn_r _ [7] (by decide +kernel) (by decide +kernel)
set_option maxRecDepth 20000 in
theorem gX4_goOver_X5_bit_n26 : GoodIn wsX4_goOver (wsX5_bit) := ggX4_goOver_X5_bit
theorem dX4_goOver_0 : decode cX4_goOver 0 = .ok (.aload_n 0, 1) := by decide +kernel
theorem dX4_goOver_1 : decode cX4_goOver 1 = .ok (.getfield 15, 3) := by decide +kernel
theorem dX4_goOver_4 : decode cX4_goOver 4 = .ok (.bipush 30, 2) := by decide +kernel
theorem dX4_goOver_6 : decode cX4_goOver 6 = .ok (.if_icmp .ge 23, 3) := by decide +kernel
theorem dX4_goOver_9 : decode cX4_goOver 9 = .ok (.aload_n 0, 1) := by decide +kernel
theorem dX4_goOver_10 : decode cX4_goOver 10 = .ok (.getfield 9, 3) := by decide +kernel
theorem dX4_goOver_13 : decode cX4_goOver 13 = .ok (.aload_n 0, 1) := by decide +kernel
theorem dX4_goOver_14 : decode cX4_goOver 14 = .ok (.getfield 15, 3) := by decide +kernel
theorem dX4_goOver_17 : decode cX4_goOver 17 = .ok (.iload_n 1, 1) := by decide +kernel
theorem dX4_goOver_18 : decode cX4_goOver 18 = .ok (.iastore, 1) := by decide +kernel
theorem dX4_goOver_19 : decode cX4_goOver 19 = .ok (.aload_n 0, 1) := by decide +kernel
theorem dX4_goOver_20 : decode cX4_goOver 20 = .ok (.dup, 1) := by decide +kernel
theorem dX4_goOver_21 : decode cX4_goOver 21 = .ok (.getfield 15, 3) := by decide +kernel
theorem dX4_goOver_24 : decode cX4_goOver 24 = .ok (.iconst 1, 1) := by decide +kernel
theorem dX4_goOver_25 : decode cX4_goOver 25 = .ok (.iadd, 1) := by decide +kernel
theorem dX4_goOver_26 : decode cX4_goOver 26 = .ok (.putfield 15, 3) := by decide +kernel
theorem dX4_goOver_29 : decode cX4_goOver 29 = .ok (.aload_n 0, 1) := by decide +kernel
theorem dX4_goOver_30 : decode cX4_goOver 30 = .ok (.dup, 1) := by decide +kernel
theorem dX4_goOver_31 : decode cX4_goOver 31 = .ok (.getfield 19, 3) := by decide +kernel
theorem dX4_goOver_34 : decode cX4_goOver 34 = .ok (.iload_n 1, 1) := by decide +kernel
theorem dX4_goOver_35 : decode cX4_goOver 35 = .ok (.invokestatic 26, 3) := by decide +kernel
theorem dX4_goOver_38 : decode cX4_goOver 38 = .ok (.lor, 1) := by decide +kernel
theorem dX4_goOver_39 : decode cX4_goOver 39 = .ok (.putfield 19, 3) := by decide +kernel
theorem dX4_goOver_42 : decode cX4_goOver 42 = .ok (.aload_n 0, 1) := by decide +kernel
theorem dX4_goOver_43 : decode cX4_goOver 43 = .ok (.iload_n 1, 1) := by decide +kernel
theorem dX4_goOver_44 : decode cX4_goOver 44 = .ok (.putfield 23, 3) := by decide +kernel
theorem dX4_goOver_47 : decode cX4_goOver 47 = .ok (.return_, 1) := by decide +kernel
set_option maxRecDepth 20000 in
theorem ggX4_fail_X5_outcomeOf : GoodIn wsX4_fail wsX5_outcomeOf := goodIn_r _ [5] (by decide +kernel) (by decide +kernel)
set_option maxRecDepth 20000 in
theorem gX4_fail_X5_outcomeOf_n30 : GoodIn wsX4_fail (wsX5_outcomeOf) := ggX4_fail_X5_outcomeOf
set_option maxRecDepth 20000 in
theorem ggX4_fail_X5_bit : GoodIn wsX4_fail wsX5_bit := goodIn_r _ [7] (by decide +kernel) (by decide +kernel)
set_option maxRecDepth 20000 in
theorem gX4_fail_X5_bit_n26 : GoodIn wsX4_fail (wsX5_bit) := ggX4_fail_X5_bit
theorem dX4_fail_0 : decode cX4_fail 0 = .ok (.aload_n 0, 1) := by decide +kernel
theorem dX4_fail_1 : decode cX4_fail 1 = .ok (.bipush 100, 2) := by decide +kernel
theorem dX4_fail_3 : decode cX4_fail 3 = .ok (.iload_n 1, 1) := by decide +kernel
theorem dX4_fail_4 : decode cX4_fail 4 = .ok (.iadd, 1) := by decide +kernel
theorem dX4_fail_5 : decode cX4_fail 5 = .ok (.putfield 23, 3) := by decide +kernel
theorem dX4_fail_8 : decode cX4_fail 8 = .ok (.aload_n 0, 1) := by decide +kernel
theorem dX4_fail_9 : decode cX4_fail 9 = .ok (.dup, 1) := by decide +kernel
theorem dX4_fail_10 : decode cX4_fail 10 = .ok (.getfield 19, 3) := by decide +kernel
theorem dX4_fail_13 : decode cX4_fail 13 = .ok (.aload_n 0, 1) := by decide +kernel
theorem dX4_fail_14 : decode cX4_fail 14 = .ok (.getfield 23, 3) := by decide +kernel
theorem dX4_fail_17 : decode cX4_fail 17 = .ok (.invokestatic 30, 3) := by decide +kernel
theorem dX4_fail_20 : decode cX4_fail 20 = .ok (.invokestatic 26, 3) := by decide +kernel
theorem dX4_fail_23 : decode cX4_fail 23 = .ok (.lor, 1) := by decide +kernel
theorem dX4_fail_24 : decode cX4_fail 24 = .ok (.putfield 19, 3) := by decide +kernel
theorem dX4_fail_27 : decode cX4_fail 27 = .ok (.return_, 1) := by decide +kernel
set_option maxRecDepth 20000 in
theorem ggX5_init_X2_init : GoodIn wsX5_init wsX2_init := goodIn_r _ [26, 27, 2, 3, 28, 29, 30, 31, 32, 33, 34, 35, 36, 37, 38, 66, 67, 68, 69, 70] (by decide +kernel) (by decide +kernel)
set_option maxRecDepth 20000 in
theorem gX5_init_X2_init : GoodIn wsX5_init (wsX2_init) := ggX5_init_X2_init
set_option maxRecDepth 20000 in
theorem ggX5_init_X4_init : GoodIn wsX5_init wsX4_init := goodIn_r _ [40, 41, 2, 3, 28, 42, 76, 77, 78, 79] (by decide +kernel) (by decide +kernel)
set_option maxRecDepth 20000 in
theorem gX5_init_X4_init_n18 : GoodIn wsX5_init (wsX4_init) := ggX5_init_X4_init
set_option maxRecDepth 20000 in
theorem ggX5_init_X1_init : GoodIn wsX5_init wsX1_init := goodIn_r _ [45, 46, 2, 3, 28, 47, 48, 49, 50, 51, 36, 37, 38, 80, 81, 82, 83] (by decide +kernel) (by decide +kernel)
set_option maxRecDepth 20000 in
theorem gX5_init_X1_init : GoodIn wsX5_init (wsX1_init) := ggX5_init_X1_init
set_option maxRecDepth 20000 in
theorem ggX5_init_X0_init : GoodIn wsX5_init wsX0_init := goodIn_r _ [53, 54, 2, 3, 28, 55, 56, 57, 58, 59, 84, 85, 86, 87, 88, 89] (by decide +kernel) (by decide +kernel)
set_option maxRecDepth 20000 in
theorem gX5_init_X0_init_n32 : GoodIn wsX5_init (wsX0_init) := ggX5_init_X0_init
set_option maxRecDepth 20000 in
theorem ggX5_init_X3_init : GoodIn wsX5_init wsX3_init := goodIn_r _ [61, 62, 2, 3, 28, 63, 64, 65, 90, 91, 92, 93] (by decide +kernel) (by decide +kernel)
set_option maxRecDepth 20000 in
theorem gX5_init_X3_init_n39 : GoodIn wsX5_init (wsX3_init) := ggX5_init_X3_init
theorem dX5_init_0 : decode cX5_init 0 = .ok (.aload_n 0, 1) := by decide +kernel
theorem dX5_init_1 : decode cX5_init 1 = .ok (.invokespecial 1, 3) := by decide +kernel
theorem dX5_init_4 : decode cX5_init 4 = .ok (.aload_n 0, 1) := by decide +kernel
theorem dX5_init_5 : decode cX5_init 5 = .ok (.new 7, 3) := by decide +kernel
theorem dX5_init_8 : decode cX5_init 8 = .ok (.dup, 1) := by decide +kernel
theorem dX5_init_9 : decode cX5_init 9 = .ok (.invokespecial 9, 3) := by decide +kernel
theorem dX5_init_12 : decode cX5_init 12 = .ok (.putfield 10, 3) := by decide +kernel
theorem dX5_init_15 : decode cX5_init 15 = .ok (.aload_n 0, 1) := by decide +kernel
theorem dX5_init_16 : decode cX5_init 16 = .ok (.new 16, 3) := by decide +kernel
theorem dX5_init_19 : decode cX5_init 19 = .ok (.dup, 1) := by decide +kernel
theorem dX5_init_20 : decode cX5_init 20 = .ok (.invokespecial 18, 3) := by decide +kernel
theorem dX5_init_23 : decode cX5_init 23 = .ok (.putfield 19, 3) := by decide +kernel
theorem dX5_init_26 : decode cX5_init 26 = .ok (.aload_n 0, 1) := by decide +kernel
theorem dX5_init_27 : decode cX5_init 27 = .ok (.new 23, 3) := by decide +kernel
theorem dX5_init_30 : decode cX5_init 30 = .ok (.dup, 1) := by decide +kernel
theorem dX5_init_31 : decode cX5_init 31 = .ok (.invokespecial 25, 3) := by decide +kernel
theorem dX5_init_34 : decode cX5_init 34 = .ok (.putfield 26, 3) := by decide +kernel
theorem dX5_init_37 : decode cX5_init 37 = .ok (.aload_n 0, 1) := by decide +kernel
theorem dX5_init_38 : decode cX5_init 38 = .ok (.new 30, 3) := by decide +kernel
theorem dX5_init_41 : decode cX5_init 41 = .ok (.dup, 1) := by decide +kernel
theorem dX5_init_42 : decode cX5_init 42 = .ok (.invokespecial 32, 3) := by decide +kernel
theorem dX5_init_45 : decode cX5_init 45 = .ok (.putfield 33, 3) := by decide +kernel
theorem dX5_init_48 : decode cX5_init 48 = .ok (.aload_n 0, 1) := by decide +kernel
theorem dX5_init_49 : decode cX5_init 49 = .ok (.new 37, 3) := by decide +kernel
theorem dX5_init_52 : decode cX5_init 52 = .ok (.dup, 1) := by decide +kernel
theorem dX5_init_53 : decode cX5_init 53 = .ok (.invokespecial 39, 3) := by decide +kernel
theorem dX5_init_56 : decode cX5_init 56 = .ok (.putfield 40, 3) := by decide +kernel
theorem dX5_init_59 : decode cX5_init 59 = .ok (.return_, 1) := by decide +kernel
set_option maxRecDepth 20000 in
theorem ggX5_ask_X5_checkNode : GoodIn wsX5_ask wsX5_checkNode := goodIn_ca (goodIn_r _ [5, 6, 7, 8, 9, 4, 10] (by decide +kernel) (by decide +kernel)) (goodIn_sub (fun _ h => List.mem_cons_of_mem _ (List.mem_append_left _ (List.mem_append_right _ h))) (by decide +kernel))
set_option maxRecDepth 20000 in
theorem gX5_ask_X5_checkNode : GoodIn wsX5_ask (va_wsS RX5 44 yX5_checkNode wsX5_checkNode) := goodIn_app (goodIn_of _ (by decide +kernel)) ggX5_ask_X5_checkNode
set_option maxRecDepth 20000 in
theorem ggX5_ask_X5_checkSlot : GoodIn wsX5_ask wsX5_checkSlot := goodIn_ca (goodIn_r _ [13, 6, 7] (by decide +kernel) (by decide +kernel)) (goodIn_sub (fun _ h => List.mem_cons_of_mem _ (List.mem_append_left _ (List.mem_append_right _ h))) (by decide +kernel))
set_option maxRecDepth 20000 in
theorem gX5_ask_X5_checkSlot : GoodIn wsX5_ask (va_wsS RX5 48 yX5_checkSlot wsX5_checkSlot) := goodIn_app (goodIn_of _ (by decide +kernel)) ggX5_ask_X5_checkSlot
set_option maxRecDepth 20000 in
theorem ggX5_ask_X5_checkQuestion : GoodIn wsX5_ask wsX5_checkQuestion := goodIn_ca (goodIn_r _ [16, 17, 18] (by decide +kernel) (by decide +kernel)) (goodIn_sub (fun _ h => List.mem_cons_of_mem _ (List.mem_append_right _ h)) (by decide +kernel))
set_option maxRecDepth 20000 in
theorem gX5_ask_X5_checkQuestion : GoodIn wsX5_ask (va_wsS RX5 51 yX5_checkQuestion wsX5_checkQuestion) := goodIn_app (goodIn_of _ (by decide +kernel)) ggX5_ask_X5_checkQuestion
set_option maxRecDepth 20000 in
theorem ggX5_ask_X2_setQuestion : GoodIn wsX5_ask wsX2_setQuestion := goodIn_r _ [23, 24, 25, 26, 110, 111, 112, 113, 114] (by decide +kernel) (by decide +kernel)
set_option maxRecDepth 20000 in
theorem gX5_ask_X2_setQuestion : GoodIn wsX5_ask (wsV RX5 55 RX2 yX2_setQuestion wsX2_setQuestion) := goodIn_app (goodIn_of _ (by decide +kernel)) ggX5_ask_X2_setQuestion
set_option maxRecDepth 20000 in
theorem ggX5_ask_X5_keptAfterChange : GoodIn wsX5_ask wsX5_keptAfterChange := goodIn_r _ [30, 31, 1, 32, 33, 34, 35, 22, 36, 37, 38, 39, 40, 41, 42, 43, 44, 45, 46, 9, 4, 10, 47, 48, 49, 50, 24, 25, 26, 51, 52, 53, 54, 55, 56, 57, 58, 59, 60, 61, 62, 63, 64, 65, 66, 67, 68, 69, 70, 71, 72, 73, 74, 75, 76, 77, 78, 79, 80, 81, 82, 83, 84, 85, 86, 87, 88, 89, 90, 91, 92, 93, 94, 95, 96, 97, 98, 99, 100, 101, 102, 103, 104, 105, 106, 107, 108, 109, 115, 116, 117, 118, 119, 120, 110, 111, 112, 113, 114, 121, 122, 123, 124] (by decide +kernel) (by decide +kernel)
set_option maxRecDepth 20000 in
theorem gX5_ask_X5_keptAfterChange : GoodIn wsX5_ask (wsV RX5 59 RX5 yX5_keptAfterChange wsX5_keptAfterChange) := goodIn_app (goodIn_of _ (by decide +kernel)) ggX5_ask_X5_keptAfterChange
theorem dX5_ask_0 : decode cX5_ask 0 = .ok (.iload_n 1, 1) := by decide +kernel
theorem dX5_ask_1 : decode cX5_ask 1 = .ok (.invokestatic 44, 3) := by decide +kernel
theorem dX5_ask_4 : decode cX5_ask 4 = .ok (.iload_n 2, 1) := by decide +kernel
theorem dX5_ask_5 : decode cX5_ask 5 = .ok (.invokestatic 48, 3) := by decide +kernel
theorem dX5_ask_8 : decode cX5_ask 8 = .ok (.iload_n 3, 1) := by decide +kernel
theorem dX5_ask_9 : decode cX5_ask 9 = .ok (.iload 4, 2) := by decide +kernel
theorem dX5_ask_11 : decode cX5_ask 11 = .ok (.invokestatic 51, 3) := by decide +kernel
theorem dX5_ask_14 : decode cX5_ask 14 = .ok (.aload_n 0, 1) := by decide +kernel
theorem dX5_ask_15 : decode cX5_ask 15 = .ok (.getfield 10, 3) := by decide +kernel
theorem dX5_ask_18 : decode cX5_ask 18 = .ok (.iload_n 1, 1) := by decide +kernel
theorem dX5_ask_19 : decode cX5_ask 19 = .ok (.iload_n 2, 1) := by decide +kernel
theorem dX5_ask_20 : decode cX5_ask 20 = .ok (.iload_n 3, 1) := by decide +kernel
theorem dX5_ask_21 : decode cX5_ask 21 = .ok (.iload 4, 2) := by decide +kernel
theorem dX5_ask_23 : decode cX5_ask 23 = .ok (.invokevirtual 55, 3) := by decide +kernel
theorem dX5_ask_26 : decode cX5_ask 26 = .ok (.aload_n 0, 1) := by decide +kernel
theorem dX5_ask_27 : decode cX5_ask 27 = .ok (.invokevirtual 59, 3) := by decide +kernel
theorem dX5_ask_30 : decode cX5_ask 30 = .ok (.ireturn, 1) := by decide +kernel
set_option maxRecDepth 20000 in
theorem ggX5_lead_X5_checkNode : GoodIn wsX5_lead wsX5_checkNode := goodIn_ca (goodIn_r _ [5, 6, 7, 8, 9, 4, 10] (by decide +kernel) (by decide +kernel)) (goodIn_sub (fun _ h => List.mem_cons_of_mem _ (List.mem_append_right _ h)) (by decide +kernel))
set_option maxRecDepth 20000 in
theorem gX5_lead_X5_checkNode : GoodIn wsX5_lead (va_wsS RX5 44 yX5_checkNode wsX5_checkNode) := goodIn_app (goodIn_of _ (by decide +kernel)) ggX5_lead_X5_checkNode
set_option maxRecDepth 20000 in
theorem ggX5_lead_X5_checkTarget : GoodIn wsX5_lead wsX5_checkTarget := goodIn_ca (goodIn_r _ [13, 6, 7, 8, 9, 4, 10] (by decide +kernel) (by decide +kernel)) (goodIn_sub (fun _ h => List.mem_cons_of_mem _ (List.mem_append_right _ h)) (by decide +kernel))
set_option maxRecDepth 20000 in
theorem gX5_lead_X5_checkTarget : GoodIn wsX5_lead (va_wsS RX5 63 yX5_checkTarget wsX5_checkTarget) := goodIn_app (goodIn_of _ (by decide +kernel)) ggX5_lead_X5_checkTarget
set_option maxRecDepth 20000 in
theorem ggX5_lead_X2_setTargets : GoodIn wsX5_lead wsX2_setTargets := goodIn_r _ [18, 19, 105, 106, 107, 108, 109] (by decide +kernel) (by decide +kernel)
set_option maxRecDepth 20000 in
theorem gX5_lead_X2_setTargets : GoodIn wsX5_lead (wsV RX5 66 RX2 yX2_setTargets wsX2_setTargets) := goodIn_app (goodIn_of _ (by decide +kernel)) ggX5_lead_X2_setTargets
set_option maxRecDepth 20000 in
theorem ggX5_lead_X5_keptAfterChange : GoodIn wsX5_lead wsX5_keptAfterChange := goodIn_r _ [23, 24, 1, 25, 26, 27, 28, 17, 29, 30, 19, 31, 32, 33, 34, 35, 36, 37, 38, 9, 4, 10, 39, 40, 41, 42, 43, 44, 45, 46, 47, 48, 49, 50, 51, 52, 53, 54, 55, 56, 57, 58, 59, 60, 61, 62, 63, 64, 65, 66, 67, 68, 69, 70, 71, 72, 73, 74, 75, 76, 77, 78, 79, 80, 81, 82, 83, 84, 85, 86, 87, 88, 89, 90, 91, 92, 93, 94, 95, 96, 97, 98, 99, 100, 101, 102, 103, 104, 110, 111, 112, 113, 114, 115, 105, 106, 107, 108, 109, 116, 117, 118, 119] (by decide +kernel) (by decide +kernel)
set_option maxRecDepth 20000 in
theorem gX5_lead_X5_keptAfterChange : GoodIn wsX5_lead (wsV RX5 59 RX5 yX5_keptAfterChange wsX5_keptAfterChange) := goodIn_app (goodIn_of _ (by decide +kernel)) ggX5_lead_X5_keptAfterChange
theorem dX5_lead_0 : decode cX5_lead 0 = .ok (.iload_n 1, 1) := by decide +kernel
theorem dX5_lead_1 : decode cX5_lead 1 = .ok (.invokestatic 44, 3) := by decide +kernel
theorem dX5_lead_4 : decode cX5_lead 4 = .ok (.iload_n 2, 1) := by decide +kernel
theorem dX5_lead_5 : decode cX5_lead 5 = .ok (.invokestatic 63, 3) := by decide +kernel
theorem dX5_lead_8 : decode cX5_lead 8 = .ok (.iload_n 3, 1) := by decide +kernel
theorem dX5_lead_9 : decode cX5_lead 9 = .ok (.invokestatic 63, 3) := by decide +kernel
theorem dX5_lead_12 : decode cX5_lead 12 = .ok (.aload_n 0, 1) := by decide +kernel
theorem dX5_lead_13 : decode cX5_lead 13 = .ok (.getfield 10, 3) := by decide +kernel
theorem dX5_lead_16 : decode cX5_lead 16 = .ok (.iload_n 1, 1) := by decide +kernel
theorem dX5_lead_17 : decode cX5_lead 17 = .ok (.iload_n 2, 1) := by decide +kernel
theorem dX5_lead_18 : decode cX5_lead 18 = .ok (.iload_n 3, 1) := by decide +kernel
theorem dX5_lead_19 : decode cX5_lead 19 = .ok (.invokevirtual 66, 3) := by decide +kernel
theorem dX5_lead_22 : decode cX5_lead 22 = .ok (.aload_n 0, 1) := by decide +kernel
theorem dX5_lead_23 : decode cX5_lead 23 = .ok (.invokevirtual 59, 3) := by decide +kernel
theorem dX5_lead_26 : decode cX5_lead 26 = .ok (.ireturn, 1) := by decide +kernel
set_option maxRecDepth 20000 in
theorem ggX5_bad_X5_checkNode : GoodIn wsX5_bad wsX5_checkNode := goodIn_ca (goodIn_r _ [5, 6, 7, 8, 9, 4, 10] (by decide +kernel) (by decide +kernel)) (goodIn_sub (fun _ h => List.mem_cons_of_mem _ (List.mem_append_right _ h)) (by decide +kernel))
set_option maxRecDepth 20000 in
theorem gX5_bad_X5_checkNode : GoodIn wsX5_bad (va_wsS RX5 44 yX5_checkNode wsX5_checkNode) := goodIn_app (goodIn_of _ (by decide +kernel)) ggX5_bad_X5_checkNode
set_option maxRecDepth 20000 in
theorem ggX5_bad_X2_setBad : GoodIn wsX5_bad wsX2_setBad := goodIn_r _ [15, 16, 102, 103, 104, 105, 106] (by decide +kernel) (by decide +kernel)
set_option maxRecDepth 20000 in
theorem gX5_bad_X2_setBad : GoodIn wsX5_bad (wsV RX5 70 RX2 yX2_setBad wsX2_setBad) := goodIn_app (goodIn_of _ (by decide +kernel)) ggX5_bad_X2_setBad
set_option maxRecDepth 20000 in
theorem ggX5_bad_X5_keptAfterChange : GoodIn wsX5_bad wsX5_keptAfterChange := goodIn_r _ [20, 21, 1, 22, 23, 24, 25, 14, 26, 16, 27, 28, 29, 30, 31, 32, 33, 34, 35, 9, 4, 10, 36, 37, 38, 39, 40, 41, 42, 43, 44, 45, 46, 47, 48, 49, 50, 51, 52, 53, 54, 55, 56, 57, 58, 59, 60, 61, 62, 63, 64, 65, 66, 67, 68, 69, 70, 71, 72, 73, 74, 75, 76, 77, 78, 79, 80, 81, 82, 83, 84, 85, 86, 87, 88, 89, 90, 91, 92, 93, 94, 95, 96, 97, 98, 99, 100, 101, 107, 108, 109, 110, 111, 112, 102, 103, 104, 105, 106, 113, 114, 115, 116] (by decide +kernel) (by decide +kernel)
set_option maxRecDepth 20000 in
theorem gX5_bad_X5_keptAfterChange : GoodIn wsX5_bad (wsV RX5 59 RX5 yX5_keptAfterChange wsX5_keptAfterChange) := goodIn_app (goodIn_of _ (by decide +kernel)) ggX5_bad_X5_keptAfterChange
theorem dX5_bad_0 : decode cX5_bad 0 = .ok (.iload_n 1, 1) := by decide +kernel
theorem dX5_bad_1 : decode cX5_bad 1 = .ok (.invokestatic 44, 3) := by decide +kernel
theorem dX5_bad_4 : decode cX5_bad 4 = .ok (.aload_n 0, 1) := by decide +kernel
theorem dX5_bad_5 : decode cX5_bad 5 = .ok (.getfield 10, 3) := by decide +kernel
theorem dX5_bad_8 : decode cX5_bad 8 = .ok (.iload_n 1, 1) := by decide +kernel
theorem dX5_bad_9 : decode cX5_bad 9 = .ok (.iload_n 2, 1) := by decide +kernel
theorem dX5_bad_10 : decode cX5_bad 10 = .ok (.invokevirtual 70, 3) := by decide +kernel
theorem dX5_bad_13 : decode cX5_bad 13 = .ok (.aload_n 0, 1) := by decide +kernel
theorem dX5_bad_14 : decode cX5_bad 14 = .ok (.invokevirtual 59, 3) := by decide +kernel
theorem dX5_bad_17 : decode cX5_bad 17 = .ok (.ireturn, 1) := by decide +kernel
set_option maxRecDepth 20000 in
theorem ggX5_run_X5_checkCase : GoodIn wsX5_run wsX5_checkCase := goodIn_ca (goodIn_r _ [4, 5, 6] (by decide +kernel) (by decide +kernel)) (goodIn_sub (fun _ h => List.mem_cons_of_mem _ (List.mem_append_right _ h)) (by decide +kernel))
set_option maxRecDepth 20000 in
theorem gX5_run_X5_checkCase : GoodIn wsX5_run (va_wsS RX5 74 yX5_checkCase wsX5_checkCase) := goodIn_app (goodIn_of _ (by decide +kernel)) ggX5_run_X5_checkCase
set_option maxRecDepth 20000 in
theorem ggX5_run_X5_resultOf : GoodIn wsX5_run wsX5_resultOf := goodIn_r _ [10, 11, 12, 13, 14, 15, 16, 17, 18, 19, 20, 21, 22, 23, 24, 25, 26, 27, 28, 3, 29, 30, 31, 32, 33, 34, 35, 36, 37, 38, 39, 40, 41, 42, 43, 44, 45, 46, 47, 48, 49, 50, 51, 52, 53, 54, 55, 56, 57, 58, 59, 60, 61, 62, 63, 64, 65] (by decide +kernel) (by decide +kernel)
set_option maxRecDepth 20000 in
theorem gX5_run_X5_resultOf : GoodIn wsX5_run (wsV RX5 77 RX5 yX5_resultOf wsX5_resultOf) := goodIn_app (goodIn_of _ (by decide +kernel)) ggX5_run_X5_resultOf
theorem dX5_run_0 : decode cX5_run 0 = .ok (.iload_n 1, 1) := by decide +kernel
theorem dX5_run_1 : decode cX5_run 1 = .ok (.invokestatic 74, 3) := by decide +kernel
theorem dX5_run_4 : decode cX5_run 4 = .ok (.aload_n 0, 1) := by decide +kernel
theorem dX5_run_5 : decode cX5_run 5 = .ok (.iload_n 1, 1) := by decide +kernel
theorem dX5_run_6 : decode cX5_run 6 = .ok (.invokevirtual 77, 3) := by decide +kernel
theorem dX5_run_9 : decode cX5_run 9 = .ok (.ireturn, 1) := by decide +kernel
set_option maxRecDepth 20000 in
theorem ggX5_edge_X5_checkCase : GoodIn wsX5_edge wsX5_checkCase := goodIn_ca (goodIn_r _ [8, 9, 10] (by decide +kernel) (by decide +kernel)) (goodIn_sub (fun _ h => List.mem_cons_of_mem _ (List.mem_append_right _ h)) (by decide +kernel))
set_option maxRecDepth 20000 in
theorem gX5_edge_X5_checkCase : GoodIn wsX5_edge (va_wsS RX5 74 yX5_checkCase wsX5_checkCase) := goodIn_app (goodIn_of _ (by decide +kernel)) ggX5_edge_X5_checkCase
set_option maxRecDepth 20000 in
theorem ggX5_edge_X2_follow : GoodIn wsX5_edge wsX2_follow := goodIn_r _ [15, 16, 17, 18, 19, 20, 21, 22, 23, 24, 25, 26, 7, 27, 28, 29, 30, 14, 31, 32, 33, 34, 35, 36, 37, 38, 39, 40, 41, 42, 43, 44, 45, 46, 47, 48, 49, 59, 60, 61, 62, 63, 55, 56, 57, 58] (by decide +kernel) (by decide +kernel)
set_option maxRecDepth 20000 in
theorem gX5_edge_X2_follow : GoodIn wsX5_edge (wsV RX5 81 RX2 yX2_follow wsX2_follow) := goodIn_app (goodIn_of _ (by decide +kernel)) ggX5_edge_X2_follow
theorem dX5_edge_0 : decode cX5_edge 0 = .ok (.iload_n 1, 1) := by decide +kernel
theorem dX5_edge_1 : decode cX5_edge 1 = .ok (.invokestatic 74, 3) := by decide +kernel
theorem dX5_edge_4 : decode cX5_edge 4 = .ok (.aload_n 0, 1) := by decide +kernel
theorem dX5_edge_5 : decode cX5_edge 5 = .ok (.getfield 10, 3) := by decide +kernel
theorem dX5_edge_8 : decode cX5_edge 8 = .ok (.iload_n 1, 1) := by decide +kernel
theorem dX5_edge_9 : decode cX5_edge 9 = .ok (.aload_n 0, 1) := by decide +kernel
theorem dX5_edge_10 : decode cX5_edge 10 = .ok (.getfield 19, 3) := by decide +kernel
theorem dX5_edge_13 : decode cX5_edge 13 = .ok (.invokevirtual 81, 3) := by decide +kernel
theorem dX5_edge_16 : decode cX5_edge 16 = .ok (.iload_n 2, 1) := by decide +kernel
theorem dX5_edge_17 : decode cX5_edge 17 = .ok (.ifCond .lt 20, 3) := by decide +kernel
theorem dX5_edge_20 : decode cX5_edge 20 = .ok (.iload_n 2, 1) := by decide +kernel
theorem dX5_edge_21 : decode cX5_edge 21 = .ok (.aload_n 0, 1) := by decide +kernel
theorem dX5_edge_22 : decode cX5_edge 22 = .ok (.getfield 19, 3) := by decide +kernel
theorem dX5_edge_25 : decode cX5_edge 25 = .ok (.getfield 85, 3) := by decide +kernel
theorem dX5_edge_28 : decode cX5_edge 28 = .ok (.if_icmp .ge 9, 3) := by decide +kernel
theorem dX5_edge_31 : decode cX5_edge 31 = .ok (.iload_n 2, 1) := by decide +kernel
theorem dX5_edge_32 : decode cX5_edge 32 = .ok (.bipush 30, 2) := by decide +kernel
theorem dX5_edge_34 : decode cX5_edge 34 = .ok (.if_icmp .lt 13, 3) := by decide +kernel
theorem dX5_edge_37 : decode cX5_edge 37 = .ok (.new 89, 3) := by decide +kernel
theorem dX5_edge_40 : decode cX5_edge 40 = .ok (.dup, 1) := by decide +kernel
theorem dX5_edge_41 : decode cX5_edge 41 = .ok (.ldc 91, 2) := by decide +kernel
theorem dX5_edge_43 : decode cX5_edge 43 = .ok (.invokespecial 93, 3) := by decide +kernel
theorem dX5_edge_46 : decode cX5_edge 46 = .ok (.athrow, 1) := by decide +kernel
theorem dX5_edge_47 : decode cX5_edge 47 = .ok (.aload_n 0, 1) := by decide +kernel
theorem dX5_edge_48 : decode cX5_edge 48 = .ok (.getfield 19, 3) := by decide +kernel
theorem dX5_edge_51 : decode cX5_edge 51 = .ok (.getfield 96, 3) := by decide +kernel
theorem dX5_edge_54 : decode cX5_edge 54 = .ok (.iload_n 2, 1) := by decide +kernel
theorem dX5_edge_55 : decode cX5_edge 55 = .ok (.iaload, 1) := by decide +kernel
theorem dX5_edge_56 : decode cX5_edge 56 = .ok (.ireturn, 1) := by decide +kernel
set_option maxRecDepth 20000 in
theorem ggX5_covers_X5_checkCase : GoodIn wsX5_covers wsX5_checkCase := goodIn_ca (goodIn_r _ [6, 7, 8] (by decide +kernel) (by decide +kernel)) (goodIn_sub (fun _ h => List.mem_cons_of_mem _ (List.mem_append_right _ h)) (by decide +kernel))
set_option maxRecDepth 20000 in
theorem gX5_covers_X5_checkCase : GoodIn wsX5_covers (va_wsS RX5 74 yX5_checkCase wsX5_checkCase) := goodIn_app (goodIn_of _ (by decide +kernel)) ggX5_covers_X5_checkCase
set_option maxRecDepth 20000 in
theorem ggX5_covers_X2_follow : GoodIn wsX5_covers wsX2_follow := goodIn_r _ [13, 14, 15, 16, 17, 18, 19, 20, 21, 22, 23, 24, 5, 25, 26, 27, 28, 12, 29, 30, 31, 32, 33, 34, 35, 36, 37, 38, 39, 40, 41, 42, 43, 44, 45, 46, 47, 68, 69, 70, 71, 72, 64, 65, 66, 67] (by decide +kernel) (by decide +kernel)
set_option maxRecDepth 20000 in
theorem gX5_covers_X2_follow : GoodIn wsX5_covers (wsV RX5 81 RX2 yX2_follow wsX2_follow) := goodIn_app (goodIn_of _ (by decide +kernel)) ggX5_covers_X2_follow
set_option maxRecDepth 20000 in
theorem ggX5_covers_X5_edgesIn : GoodIn wsX5_covers wsX5_edgesIn := goodIn_r _ [50, 51, 52, 53, 54, 55, 56, 57, 58] (by decide +kernel) (by decide +kernel)
set_option maxRecDepth 20000 in
theorem gX5_covers_X5_edgesIn : GoodIn wsX5_covers (va_wsS RX5 104 yX5_edgesIn wsX5_edgesIn) := goodIn_app (goodIn_of _ (by decide +kernel)) ggX5_covers_X5_edgesIn
theorem dX5_covers_0 : decode cX5_covers 0 = .ok (.iload_n 1, 1) := by decide +kernel
theorem dX5_covers_1 : decode cX5_covers 1 = .ok (.invokestatic 74, 3) := by decide +kernel
theorem dX5_covers_4 : decode cX5_covers 4 = .ok (.aload_n 0, 1) := by decide +kernel
theorem dX5_covers_5 : decode cX5_covers 5 = .ok (.getfield 10, 3) := by decide +kernel
theorem dX5_covers_8 : decode cX5_covers 8 = .ok (.iload_n 1, 1) := by decide +kernel
theorem dX5_covers_9 : decode cX5_covers 9 = .ok (.aload_n 0, 1) := by decide +kernel
theorem dX5_covers_10 : decode cX5_covers 10 = .ok (.getfield 19, 3) := by decide +kernel
theorem dX5_covers_13 : decode cX5_covers 13 = .ok (.invokevirtual 81, 3) := by decide +kernel
theorem dX5_covers_16 : decode cX5_covers 16 = .ok (.aload_n 0, 1) := by decide +kernel
theorem dX5_covers_17 : decode cX5_covers 17 = .ok (.getfield 19, 3) := by decide +kernel
theorem dX5_covers_20 : decode cX5_covers 20 = .ok (.getfield 100, 3) := by decide +kernel
theorem dX5_covers_23 : decode cX5_covers 23 = .ok (.invokestatic 104, 3) := by decide +kernel
theorem dX5_covers_26 : decode cX5_covers 26 = .ok (.ireturn, 1) := by decide +kernel
set_option maxRecDepth 20000 in
theorem ggX5_weights_X5_checkSlot : GoodIn wsX5_weights wsX5_checkSlot := goodIn_ca (goodIn_r _ [5, 6, 7] (by decide +kernel) (by decide +kernel)) (goodIn_sub (fun _ h => List.mem_cons_of_mem _ (List.mem_append_left _ (List.mem_append_right _ h))) (by decide +kernel))
set_option maxRecDepth 20000 in
theorem gX5_weights_X5_checkSlot : GoodIn wsX5_weights (va_wsS RX5 48 yX5_checkSlot wsX5_checkSlot) := goodIn_app (goodIn_of _ (by decide +kernel)) ggX5_weights_X5_checkSlot
set_option maxRecDepth 20000 in
theorem ggX5_weights_X5_checkWeight : GoodIn wsX5_weights wsX5_checkWeight := goodIn_ca (goodIn_r _ [10, 11, 12] (by decide +kernel) (by decide +kernel)) (goodIn_sub (fun _ h => List.mem_cons_of_mem _ (List.mem_append_right _ h)) (by decide +kernel))
set_option maxRecDepth 20000 in
theorem gX5_weights_X5_checkWeight : GoodIn wsX5_weights (va_wsS RX5 108 yX5_checkWeight wsX5_checkWeight) := goodIn_app (goodIn_of _ (by decide +kernel)) ggX5_weights_X5_checkWeight
set_option maxRecDepth 20000 in
theorem ggX5_weights_X1_weightOf : GoodIn wsX5_weights wsX1_weightOf := goodIn_r _ [17, 18, 19, 20, 30, 31, 32, 33] (by decide +kernel) (by decide +kernel)
set_option maxRecDepth 20000 in
theorem gX5_weights_X1_weightOf : GoodIn wsX5_weights (wsV RX5 111 RX1 yX1_weightOf wsX1_weightOf) := goodIn_app (goodIn_of _ (by decide +kernel)) ggX5_weights_X1_weightOf
set_option maxRecDepth 20000 in
theorem ggX5_weights_X1_setWeights : GoodIn wsX5_weights wsX1_setWeights := goodIn_r _ [24, 18, 19, 20, 30, 31, 32, 33] (by decide +kernel) (by decide +kernel)
set_option maxRecDepth 20000 in
theorem gX5_weights_X1_setWeights : GoodIn wsX5_weights (wsV RX5 114 RX1 yX1_setWeights wsX1_setWeights) := goodIn_app (goodIn_of _ (by decide +kernel)) ggX5_weights_X1_setWeights
theorem dX5_weights_0 : decode cX5_weights 0 = .ok (.iload_n 1, 1) := by decide +kernel
theorem dX5_weights_1 : decode cX5_weights 1 = .ok (.invokestatic 48, 3) := by decide +kernel
theorem dX5_weights_4 : decode cX5_weights 4 = .ok (.iload_n 2, 1) := by decide +kernel
theorem dX5_weights_5 : decode cX5_weights 5 = .ok (.invokestatic 108, 3) := by decide +kernel
theorem dX5_weights_8 : decode cX5_weights 8 = .ok (.iload_n 3, 1) := by decide +kernel
theorem dX5_weights_9 : decode cX5_weights 9 = .ok (.invokestatic 108, 3) := by decide +kernel
theorem dX5_weights_12 : decode cX5_weights 12 = .ok (.iload 4, 2) := by decide +kernel
theorem dX5_weights_14 : decode cX5_weights 14 = .ok (.invokestatic 108, 3) := by decide +kernel
theorem dX5_weights_17 : decode cX5_weights 17 = .ok (.aload_n 0, 1) := by decide +kernel
theorem dX5_weights_18 : decode cX5_weights 18 = .ok (.getfield 26, 3) := by decide +kernel
theorem dX5_weights_21 : decode cX5_weights 21 = .ok (.iload_n 1, 1) := by decide +kernel
theorem dX5_weights_22 : decode cX5_weights 22 = .ok (.invokevirtual 111, 3) := by decide +kernel
theorem dX5_weights_25 : decode cX5_weights 25 = .ok (.istore 5, 2) := by decide +kernel
theorem dX5_weights_27 : decode cX5_weights 27 = .ok (.aload_n 0, 1) := by decide +kernel
theorem dX5_weights_28 : decode cX5_weights 28 = .ok (.getfield 26, 3) := by decide +kernel
theorem dX5_weights_31 : decode cX5_weights 31 = .ok (.iload_n 1, 1) := by decide +kernel
theorem dX5_weights_32 : decode cX5_weights 32 = .ok (.iload_n 2, 1) := by decide +kernel
theorem dX5_weights_33 : decode cX5_weights 33 = .ok (.iload_n 3, 1) := by decide +kernel
theorem dX5_weights_34 : decode cX5_weights 34 = .ok (.iload 4, 2) := by decide +kernel
theorem dX5_weights_36 : decode cX5_weights 36 = .ok (.invokevirtual 114, 3) := by decide +kernel
theorem dX5_weights_39 : decode cX5_weights 39 = .ok (.iload 5, 2) := by decide +kernel
theorem dX5_weights_41 : decode cX5_weights 41 = .ok (.ireturn, 1) := by decide +kernel
theorem dX5_draw_0 : decode cX5_draw 0 = .ok (.iload_n 1, 1) := by decide +kernel
theorem dX5_draw_1 : decode cX5_draw 1 = .ok (.ifCond .lt 10, 3) := by decide +kernel
theorem dX5_draw_4 : decode cX5_draw 4 = .ok (.iload_n 1, 1) := by decide +kernel
theorem dX5_draw_5 : decode cX5_draw 5 = .ok (.sipush 10000, 3) := by decide +kernel
theorem dX5_draw_8 : decode cX5_draw 8 = .ok (.if_icmp .lt 13, 3) := by decide +kernel
theorem dX5_draw_11 : decode cX5_draw 11 = .ok (.new 117, 3) := by decide +kernel
theorem dX5_draw_14 : decode cX5_draw 14 = .ok (.dup, 1) := by decide +kernel
theorem dX5_draw_15 : decode cX5_draw 15 = .ok (.ldc 119, 2) := by decide +kernel
theorem dX5_draw_17 : decode cX5_draw 17 = .ok (.invokespecial 121, 3) := by decide +kernel
theorem dX5_draw_20 : decode cX5_draw 20 = .ok (.athrow, 1) := by decide +kernel
theorem dX5_draw_21 : decode cX5_draw 21 = .ok (.aload_n 0, 1) := by decide +kernel
theorem dX5_draw_22 : decode cX5_draw 22 = .ok (.getfield 26, 3) := by decide +kernel
theorem dX5_draw_25 : decode cX5_draw 25 = .ok (.getfield 122, 3) := by decide +kernel
theorem dX5_draw_28 : decode cX5_draw 28 = .ok (.istore_n 2, 1) := by decide +kernel
theorem dX5_draw_29 : decode cX5_draw 29 = .ok (.aload_n 0, 1) := by decide +kernel
theorem dX5_draw_30 : decode cX5_draw 30 = .ok (.getfield 26, 3) := by decide +kernel
theorem dX5_draw_33 : decode cX5_draw 33 = .ok (.iload_n 1, 1) := by decide +kernel
theorem dX5_draw_34 : decode cX5_draw 34 = .ok (.putfield 122, 3) := by decide +kernel
theorem dX5_draw_37 : decode cX5_draw 37 = .ok (.iload_n 2, 1) := by decide +kernel
theorem dX5_draw_38 : decode cX5_draw 38 = .ok (.ireturn, 1) := by decide +kernel
set_option maxRecDepth 20000 in
theorem ggX5_generate_X5_checkRoom : GoodIn wsX5_generate wsX5_checkRoom := goodIn_ca (goodIn_r _ [6, 7, 8, 9, 114, 115, 116, 117, 118, 119, 120, 121, 122, 123, 124] (by decide +kernel) (by decide +kernel)) (goodIn_sub (fun _ h => List.mem_cons_of_mem _ (List.mem_append_right _ h)) (by decide +kernel))
set_option maxRecDepth 20000 in
theorem gX5_generate_X5_checkRoom : GoodIn wsX5_generate (wsV RX5 125 RX5 yX5_checkRoom wsX5_checkRoom) := goodIn_app (goodIn_of _ (by decide +kernel)) ggX5_generate_X5_checkRoom
set_option maxRecDepth 20000 in
theorem ggX5_generate_X1_nextCase : GoodIn wsX5_generate wsX1_nextCase := goodIn_r _ [14, 15, 16, 17, 13, 18, 19, 20, 21, 22, 23, 24, 25, 26, 27, 28, 29, 30, 125, 126, 127, 128] (by decide +kernel) (by decide +kernel)
set_option maxRecDepth 20000 in
theorem gX5_generate_X1_nextCase : GoodIn wsX5_generate (wsV RX5 128 RX1 yX1_nextCase wsX1_nextCase) := goodIn_app (goodIn_of _ (by decide +kernel)) ggX5_generate_X1_nextCase
set_option maxRecDepth 20000 in
theorem ggX5_generate_X5_tasteOf : GoodIn wsX5_generate wsX5_tasteOf := goodIn_r _ [34, 35, 36, 9, 37, 38, 39, 40, 41, 42, 43, 44, 45, 46, 47, 48, 49, 50, 51, 52, 5, 53, 54, 55, 56, 57, 58, 59, 60, 61, 62, 63, 64, 65, 66, 67, 68, 69, 70, 71, 72, 73, 74, 75, 76, 77, 78, 79, 80, 81, 82, 83, 84, 85, 86, 87, 88, 89, 90, 91, 92, 93, 94, 95, 96, 97, 98, 99, 100, 101, 102, 103, 104, 105, 106, 107, 108, 109, 110, 111, 112, 113, 114, 115, 116, 117, 118, 129, 130, 131, 132, 133, 134, 135, 136, 137, 119, 120, 121, 122, 123, 124] (by decide +kernel) (by decide +kernel)
set_option maxRecDepth 20000 in
theorem gX5_generate_X5_tasteOf : GoodIn wsX5_generate (wsV RX5 131 RX5 yX5_tasteOf wsX5_tasteOf) := goodIn_app (goodIn_of _ (by decide +kernel)) ggX5_generate_X5_tasteOf
theorem dX5_generate_0 : decode cX5_generate 0 = .ok (.aload_n 0, 1) := by decide +kernel
theorem dX5_generate_1 : decode cX5_generate 1 = .ok (.invokevirtual 125, 3) := by decide +kernel
theorem dX5_generate_4 : decode cX5_generate 4 = .ok (.aload_n 0, 1) := by decide +kernel
theorem dX5_generate_5 : decode cX5_generate 5 = .ok (.getfield 26, 3) := by decide +kernel
theorem dX5_generate_8 : decode cX5_generate 8 = .ok (.invokevirtual 128, 3) := by decide +kernel
theorem dX5_generate_11 : decode cX5_generate 11 = .ok (.istore_n 1, 1) := by decide +kernel
theorem dX5_generate_12 : decode cX5_generate 12 = .ok (.aload_n 0, 1) := by decide +kernel
theorem dX5_generate_13 : decode cX5_generate 13 = .ok (.iload_n 1, 1) := by decide +kernel
theorem dX5_generate_14 : decode cX5_generate 14 = .ok (.invokevirtual 131, 3) := by decide +kernel
theorem dX5_generate_17 : decode cX5_generate 17 = .ok (.pop, 1) := by decide +kernel
theorem dX5_generate_18 : decode cX5_generate 18 = .ok (.iload_n 1, 1) := by decide +kernel
theorem dX5_generate_19 : decode cX5_generate 19 = .ok (.ireturn, 1) := by decide +kernel
set_option maxRecDepth 20000 in
theorem ggX5_mutate_X0_mostEnergetic : GoodIn wsX5_mutate wsX0_mostEnergetic := goodIn_r _ [9, 10, 11, 12, 13, 8, 14, 15, 16, 17, 18, 19, 20, 21, 22, 23, 24, 25, 26, 27, 28, 29, 30, 31, 32, 33, 34, 35, 36, 37, 38, 39, 40, 41, 42, 43, 44, 45, 46, 47, 48, 49, 141, 142, 143, 144, 145, 146] (by decide +kernel) (by decide +kernel)
set_option maxRecDepth 20000 in
theorem gX5_mutate_X0_mostEnergetic : GoodIn wsX5_mutate (wsV RX5 134 RX0 yX0_mostEnergetic wsX0_mostEnergetic) := goodIn_app (goodIn_of _ (by decide +kernel)) ggX5_mutate_X0_mostEnergetic
set_option maxRecDepth 20000 in
theorem ggX5_mutate_X5_checkRoom : GoodIn wsX5_mutate wsX5_checkRoom := goodIn_ca (goodIn_r _ [53, 1, 2, 3, 136, 137, 138, 139, 140, 141, 142, 143, 144, 145, 146] (by decide +kernel) (by decide +kernel)) (goodIn_sub (fun _ h => List.mem_cons_of_mem _ (List.mem_append_right _ h)) (by decide +kernel))
set_option maxRecDepth 20000 in
theorem gX5_mutate_X5_checkRoom : GoodIn wsX5_mutate (wsV RX5 125 RX5 yX5_checkRoom wsX5_checkRoom) := goodIn_app (goodIn_of _ (by decide +kernel)) ggX5_mutate_X5_checkRoom
set_option maxRecDepth 20000 in
theorem ggX5_mutate_X1_mutantOf : GoodIn wsX5_mutate wsX1_mutantOf := goodIn_r _ [58, 59, 60, 61, 57, 62, 63, 64, 17, 65, 66, 67, 68, 69, 70, 71, 147, 148, 149, 150] (by decide +kernel) (by decide +kernel)
set_option maxRecDepth 20000 in
theorem gX5_mutate_X1_mutantOf : GoodIn wsX5_mutate (wsV RX5 148 RX1 yX1_mutantOf wsX1_mutantOf) := goodIn_app (goodIn_of _ (by decide +kernel)) ggX5_mutate_X1_mutantOf
set_option maxRecDepth 20000 in
theorem ggX5_mutate_X5_tasteOf : GoodIn wsX5_mutate wsX5_tasteOf := goodIn_r _ [75, 76, 77, 3, 78, 79, 80, 81, 82, 83, 84, 85, 86, 87, 88, 89, 90, 91, 92, 93, 17, 94, 95, 96, 97, 98, 99, 100, 101, 64, 65, 102, 103, 104, 105, 106, 34, 35, 107, 108, 109, 110, 111, 112, 113, 114, 115, 8, 116, 10, 15, 117, 118, 119, 120, 121, 122, 123, 124, 125, 126, 32, 28, 29, 30, 31, 33, 36, 37, 38, 39, 16, 18, 127, 128, 129, 130, 131, 132, 133, 134, 135, 136, 137, 138, 139, 140, 151, 152, 153, 154, 155, 156, 157, 158, 159, 141, 142, 143, 144, 145, 146] (by decide +kernel) (by decide +kernel)
set_option maxRecDepth 20000 in
theorem gX5_mutate_X5_tasteOf : GoodIn wsX5_mutate (wsV RX5 131 RX5 yX5_tasteOf wsX5_tasteOf) := goodIn_app (goodIn_of _ (by decide +kernel)) ggX5_mutate_X5_tasteOf
theorem dX5_mutate_0 : decode cX5_mutate 0 = .ok (.aload_n 0, 1) := by decide +kernel
theorem dX5_mutate_1 : decode cX5_mutate 1 = .ok (.getfield 33, 3) := by decide +kernel
theorem dX5_mutate_4 : decode cX5_mutate 4 = .ok (.invokevirtual 134, 3) := by decide +kernel
theorem dX5_mutate_7 : decode cX5_mutate 7 = .ok (.istore_n 1, 1) := by decide +kernel
theorem dX5_mutate_8 : decode cX5_mutate 8 = .ok (.iload_n 1, 1) := by decide +kernel
theorem dX5_mutate_9 : decode cX5_mutate 9 = .ok (.iconst (-1), 1) := by decide +kernel
theorem dX5_mutate_10 : decode cX5_mutate 10 = .ok (.if_icmp .ne 13, 3) := by decide +kernel
theorem dX5_mutate_13 : decode cX5_mutate 13 = .ok (.new 137, 3) := by decide +kernel
theorem dX5_mutate_16 : decode cX5_mutate 16 = .ok (.dup, 1) := by decide +kernel
theorem dX5_mutate_17 : decode cX5_mutate 17 = .ok (.ldc 139, 2) := by decide +kernel
theorem dX5_mutate_19 : decode cX5_mutate 19 = .ok (.invokespecial 141, 3) := by decide +kernel
theorem dX5_mutate_22 : decode cX5_mutate 22 = .ok (.athrow, 1) := by decide +kernel
theorem dX5_mutate_23 : decode cX5_mutate 23 = .ok (.aload_n 0, 1) := by decide +kernel
theorem dX5_mutate_24 : decode cX5_mutate 24 = .ok (.invokevirtual 125, 3) := by decide +kernel
theorem dX5_mutate_27 : decode cX5_mutate 27 = .ok (.aload_n 0, 1) := by decide +kernel
theorem dX5_mutate_28 : decode cX5_mutate 28 = .ok (.getfield 33, 3) := by decide +kernel
theorem dX5_mutate_31 : decode cX5_mutate 31 = .ok (.getfield 142, 3) := by decide +kernel
theorem dX5_mutate_34 : decode cX5_mutate 34 = .ok (.iload_n 1, 1) := by decide +kernel
theorem dX5_mutate_35 : decode cX5_mutate 35 = .ok (.dup2, 1) := by decide +kernel
theorem dX5_mutate_36 : decode cX5_mutate 36 = .ok (.iaload, 1) := by decide +kernel
theorem dX5_mutate_37 : decode cX5_mutate 37 = .ok (.iconst 1, 1) := by decide +kernel
theorem dX5_mutate_38 : decode cX5_mutate 38 = .ok (.iadd, 1) := by decide +kernel
theorem dX5_mutate_39 : decode cX5_mutate 39 = .ok (.iastore, 1) := by decide +kernel
theorem dX5_mutate_40 : decode cX5_mutate 40 = .ok (.aload_n 0, 1) := by decide +kernel
theorem dX5_mutate_41 : decode cX5_mutate 41 = .ok (.getfield 26, 3) := by decide +kernel
theorem dX5_mutate_44 : decode cX5_mutate 44 = .ok (.aload_n 0, 1) := by decide +kernel
theorem dX5_mutate_45 : decode cX5_mutate 45 = .ok (.getfield 33, 3) := by decide +kernel
theorem dX5_mutate_48 : decode cX5_mutate 48 = .ok (.getfield 145, 3) := by decide +kernel
theorem dX5_mutate_51 : decode cX5_mutate 51 = .ok (.iload_n 1, 1) := by decide +kernel
theorem dX5_mutate_52 : decode cX5_mutate 52 = .ok (.iaload, 1) := by decide +kernel
theorem dX5_mutate_53 : decode cX5_mutate 53 = .ok (.invokevirtual 148, 3) := by decide +kernel
theorem dX5_mutate_56 : decode cX5_mutate 56 = .ok (.istore_n 2, 1) := by decide +kernel
theorem dX5_mutate_57 : decode cX5_mutate 57 = .ok (.aload_n 0, 1) := by decide +kernel
theorem dX5_mutate_58 : decode cX5_mutate 58 = .ok (.iload_n 2, 1) := by decide +kernel
theorem dX5_mutate_59 : decode cX5_mutate 59 = .ok (.invokevirtual 131, 3) := by decide +kernel
theorem dX5_mutate_62 : decode cX5_mutate 62 = .ok (.pop, 1) := by decide +kernel
theorem dX5_mutate_63 : decode cX5_mutate 63 = .ok (.iload_n 2, 1) := by decide +kernel
theorem dX5_mutate_64 : decode cX5_mutate 64 = .ok (.ireturn, 1) := by decide +kernel
set_option maxRecDepth 20000 in
theorem ggX5_taste_X5_checkCase : GoodIn wsX5_taste wsX5_checkCase := goodIn_ca (goodIn_r _ [4, 5, 6] (by decide +kernel) (by decide +kernel)) (goodIn_sub (fun _ h => List.mem_cons_of_mem _ (List.mem_append_left _ (List.mem_append_right _ h))) (by decide +kernel))
set_option maxRecDepth 20000 in
theorem gX5_taste_X5_checkCase : GoodIn wsX5_taste (va_wsS RX5 74 yX5_checkCase wsX5_checkCase) := goodIn_app (goodIn_of _ (by decide +kernel)) ggX5_taste_X5_checkCase
set_option maxRecDepth 20000 in
theorem ggX5_taste_X5_checkRoom : GoodIn wsX5_taste wsX5_checkRoom := goodIn_ca (goodIn_r _ [10, 11, 12, 13, 97, 98, 99, 100, 101, 102, 103, 104, 105, 106, 107] (by decide +kernel) (by decide +kernel)) (goodIn_sub (fun _ h => List.mem_cons_of_mem _ (List.mem_append_right _ h)) (by decide +kernel))
set_option maxRecDepth 20000 in
theorem gX5_taste_X5_checkRoom : GoodIn wsX5_taste (wsV RX5 125 RX5 yX5_checkRoom wsX5_checkRoom) := goodIn_app (goodIn_of _ (by decide +kernel)) ggX5_taste_X5_checkRoom
set_option maxRecDepth 20000 in
theorem ggX5_taste_X5_tasteOf : GoodIn wsX5_taste wsX5_tasteOf := goodIn_r _ [17, 18, 19, 13, 20, 21, 22, 23, 24, 25, 26, 27, 28, 29, 30, 31, 32, 33, 34, 35, 3, 36, 37, 38, 39, 40, 41, 42, 43, 44, 45, 46, 47, 48, 49, 50, 51, 52, 53, 54, 55, 56, 57, 58, 59, 60, 61, 62, 63, 64, 65, 66, 67, 68, 69, 70, 71, 72, 73, 74, 75, 76, 77, 78, 79, 80, 81, 82, 83, 84, 85, 86, 87, 88, 89, 90, 91, 92, 93, 94, 95, 96, 97, 98, 99, 100, 101, 108, 109, 110, 111, 112, 113, 114, 115, 116, 102, 103, 104, 105, 106, 107] (by decide +kernel) (by decide +kernel)
set_option maxRecDepth 20000 in
theorem gX5_taste_X5_tasteOf : GoodIn wsX5_taste (wsV RX5 131 RX5 yX5_tasteOf wsX5_tasteOf) := goodIn_app (goodIn_of _ (by decide +kernel)) ggX5_taste_X5_tasteOf
theorem dX5_taste_0 : decode cX5_taste 0 = .ok (.iload_n 1, 1) := by decide +kernel
theorem dX5_taste_1 : decode cX5_taste 1 = .ok (.invokestatic 74, 3) := by decide +kernel
theorem dX5_taste_4 : decode cX5_taste 4 = .ok (.aload_n 0, 1) := by decide +kernel
theorem dX5_taste_5 : decode cX5_taste 5 = .ok (.invokevirtual 125, 3) := by decide +kernel
theorem dX5_taste_8 : decode cX5_taste 8 = .ok (.aload_n 0, 1) := by decide +kernel
theorem dX5_taste_9 : decode cX5_taste 9 = .ok (.iload_n 1, 1) := by decide +kernel
theorem dX5_taste_10 : decode cX5_taste 10 = .ok (.invokevirtual 131, 3) := by decide +kernel
theorem dX5_taste_13 : decode cX5_taste 13 = .ok (.ireturn, 1) := by decide +kernel
set_option maxRecDepth 20000 in
theorem ggX5_ofKnown_X0_isKept : GoodIn wsX5_ofKnown wsX0_isKept := goodIn_r _ [10, 11, 12, 13, 14, 54, 55, 56, 57, 58, 59] (by decide +kernel) (by decide +kernel)
set_option maxRecDepth 20000 in
theorem gX5_ofKnown_X0_isKept : GoodIn wsX5_ofKnown (wsV RX5 158 RX0 yX0_isKept wsX0_isKept) := goodIn_app (goodIn_of _ (by decide +kernel)) ggX5_ofKnown_X0_isKept
set_option maxRecDepth 20000 in
theorem ggX5_ofKnown_X0_energyOf : GoodIn wsX5_ofKnown wsX0_energyOf := goodIn_r _ [18, 11, 19, 20, 21, 22, 23, 24, 7, 8, 9, 10, 12, 13, 14, 25, 26, 27, 28, 29, 30, 31, 32, 33, 34, 35, 36, 37, 38, 39, 40, 41, 42, 43, 44, 45, 46, 54, 55, 56, 57, 58, 59] (by decide +kernel) (by decide +kernel)
set_option maxRecDepth 20000 in
theorem gX5_ofKnown_X0_energyOf : GoodIn wsX5_ofKnown (wsV RX5 162 RX0 yX0_energyOf wsX0_energyOf) := goodIn_app (goodIn_of _ (by decide +kernel)) ggX5_ofKnown_X0_energyOf
set_option maxRecDepth 20000 in
theorem ggX5_ofKnown_X5_edgesIn : GoodIn wsX5_ofKnown wsX5_edgesIn := goodIn_r _ [38, 39, 40, 41, 42, 43, 44, 45, 46] (by decide +kernel) (by decide +kernel)
set_option maxRecDepth 20000 in
theorem gX5_ofKnown_X5_edgesIn : GoodIn wsX5_ofKnown (va_wsS RX5 104 yX5_edgesIn wsX5_edgesIn) := goodIn_app (goodIn_of _ (by decide +kernel)) ggX5_ofKnown_X5_edgesIn
set_option maxRecDepth 20000 in
theorem ggX5_ofKnown_X0_foundAloneBy : GoodIn wsX5_ofKnown wsX0_foundAloneBy := goodIn_r _ [28, 29, 30, 31, 13, 32, 33, 34, 35, 9, 36, 12, 14, 54, 55, 56, 57, 58, 59] (by decide +kernel) (by decide +kernel)
set_option maxRecDepth 20000 in
theorem gX5_ofKnown_X0_foundAloneBy : GoodIn wsX5_ofKnown (wsV RX5 174 RX0 yX0_foundAloneBy wsX0_foundAloneBy) := goodIn_app (goodIn_of _ (by decide +kernel)) ggX5_ofKnown_X0_foundAloneBy
theorem dX5_ofKnown_0 : decode cX5_ofKnown 0 = .ok (.iload_n 1, 1) := by decide +kernel
theorem dX5_ofKnown_1 : decode cX5_ofKnown 1 = .ok (.ifCond .lt 20, 3) := by decide +kernel
theorem dX5_ofKnown_4 : decode cX5_ofKnown 4 = .ok (.iload_n 1, 1) := by decide +kernel
theorem dX5_ofKnown_5 : decode cX5_ofKnown 5 = .ok (.aload_n 0, 1) := by decide +kernel
theorem dX5_ofKnown_6 : decode cX5_ofKnown 6 = .ok (.getfield 33, 3) := by decide +kernel
theorem dX5_ofKnown_9 : decode cX5_ofKnown 9 = .ok (.getfield 151, 3) := by decide +kernel
theorem dX5_ofKnown_12 : decode cX5_ofKnown 12 = .ok (.if_icmp .ge 9, 3) := by decide +kernel
theorem dX5_ofKnown_15 : decode cX5_ofKnown 15 = .ok (.iload_n 1, 1) := by decide +kernel
theorem dX5_ofKnown_16 : decode cX5_ofKnown 16 = .ok (.bipush 40, 2) := by decide +kernel
theorem dX5_ofKnown_18 : decode cX5_ofKnown 18 = .ok (.if_icmp .lt 13, 3) := by decide +kernel
theorem dX5_ofKnown_21 : decode cX5_ofKnown 21 = .ok (.new 89, 3) := by decide +kernel
theorem dX5_ofKnown_24 : decode cX5_ofKnown 24 = .ok (.dup, 1) := by decide +kernel
theorem dX5_ofKnown_25 : decode cX5_ofKnown 25 = .ok (.ldc 154, 2) := by decide +kernel
theorem dX5_ofKnown_27 : decode cX5_ofKnown 27 = .ok (.invokespecial 93, 3) := by decide +kernel
theorem dX5_ofKnown_30 : decode cX5_ofKnown 30 = .ok (.athrow, 1) := by decide +kernel
theorem dX5_ofKnown_31 : decode cX5_ofKnown 31 = .ok (.iload_n 2, 1) := by decide +kernel
theorem dX5_ofKnown_32 : decode cX5_ofKnown 32 = .ok (.ifCond .lt 9, 3) := by decide +kernel
theorem dX5_ofKnown_35 : decode cX5_ofKnown 35 = .ok (.iload_n 2, 1) := by decide +kernel
theorem dX5_ofKnown_36 : decode cX5_ofKnown 36 = .ok (.bipush 6, 2) := by decide +kernel
theorem dX5_ofKnown_38 : decode cX5_ofKnown 38 = .ok (.if_icmp .le 13, 3) := by decide +kernel
theorem dX5_ofKnown_41 : decode cX5_ofKnown 41 = .ok (.new 117, 3) := by decide +kernel
theorem dX5_ofKnown_44 : decode cX5_ofKnown 44 = .ok (.dup, 1) := by decide +kernel
theorem dX5_ofKnown_45 : decode cX5_ofKnown 45 = .ok (.ldc 156, 2) := by decide +kernel
theorem dX5_ofKnown_47 : decode cX5_ofKnown 47 = .ok (.invokespecial 121, 3) := by decide +kernel
theorem dX5_ofKnown_50 : decode cX5_ofKnown 50 = .ok (.athrow, 1) := by decide +kernel
theorem dX5_ofKnown_51 : decode cX5_ofKnown 51 = .ok (.iload_n 2, 1) := by decide +kernel
theorem dX5_ofKnown_52 : decode cX5_ofKnown 52 = .ok (.tableswitch 109 0 5 #[40, 50, 67, 76, 86, 96], 40) := by decide +kernel
theorem dX5_ofKnown_92 : decode cX5_ofKnown 92 = .ok (.aload_n 0, 1) := by decide +kernel
theorem dX5_ofKnown_93 : decode cX5_ofKnown 93 = .ok (.getfield 33, 3) := by decide +kernel
theorem dX5_ofKnown_96 : decode cX5_ofKnown 96 = .ok (.getfield 145, 3) := by decide +kernel
theorem dX5_ofKnown_99 : decode cX5_ofKnown 99 = .ok (.iload_n 1, 1) := by decide +kernel
theorem dX5_ofKnown_100 : decode cX5_ofKnown 100 = .ok (.iaload, 1) := by decide +kernel
theorem dX5_ofKnown_101 : decode cX5_ofKnown 101 = .ok (.ireturn, 1) := by decide +kernel
theorem dX5_ofKnown_102 : decode cX5_ofKnown 102 = .ok (.aload_n 0, 1) := by decide +kernel
theorem dX5_ofKnown_103 : decode cX5_ofKnown 103 = .ok (.getfield 33, 3) := by decide +kernel
theorem dX5_ofKnown_106 : decode cX5_ofKnown 106 = .ok (.iload_n 1, 1) := by decide +kernel
theorem dX5_ofKnown_107 : decode cX5_ofKnown 107 = .ok (.invokevirtual 158, 3) := by decide +kernel
theorem dX5_ofKnown_110 : decode cX5_ofKnown 110 = .ok (.ifCond .eq 7, 3) := by decide +kernel
theorem dX5_ofKnown_113 : decode cX5_ofKnown 113 = .ok (.iconst 1, 1) := by decide +kernel
theorem dX5_ofKnown_114 : decode cX5_ofKnown 114 = .ok (.goto 4, 3) := by decide +kernel
theorem dX5_ofKnown_117 : decode cX5_ofKnown 117 = .ok (.iconst 0, 1) := by decide +kernel
theorem dX5_ofKnown_118 : decode cX5_ofKnown 118 = .ok (.ireturn, 1) := by decide +kernel
theorem dX5_ofKnown_119 : decode cX5_ofKnown 119 = .ok (.aload_n 0, 1) := by decide +kernel
theorem dX5_ofKnown_120 : decode cX5_ofKnown 120 = .ok (.getfield 33, 3) := by decide +kernel
theorem dX5_ofKnown_123 : decode cX5_ofKnown 123 = .ok (.iload_n 1, 1) := by decide +kernel
theorem dX5_ofKnown_124 : decode cX5_ofKnown 124 = .ok (.invokevirtual 162, 3) := by decide +kernel
theorem dX5_ofKnown_127 : decode cX5_ofKnown 127 = .ok (.ireturn, 1) := by decide +kernel
theorem dX5_ofKnown_128 : decode cX5_ofKnown 128 = .ok (.aload_n 0, 1) := by decide +kernel
theorem dX5_ofKnown_129 : decode cX5_ofKnown 129 = .ok (.getfield 33, 3) := by decide +kernel
theorem dX5_ofKnown_132 : decode cX5_ofKnown 132 = .ok (.getfield 142, 3) := by decide +kernel
theorem dX5_ofKnown_135 : decode cX5_ofKnown 135 = .ok (.iload_n 1, 1) := by decide +kernel
theorem dX5_ofKnown_136 : decode cX5_ofKnown 136 = .ok (.iaload, 1) := by decide +kernel
theorem dX5_ofKnown_137 : decode cX5_ofKnown 137 = .ok (.ireturn, 1) := by decide +kernel
theorem dX5_ofKnown_138 : decode cX5_ofKnown 138 = .ok (.aload_n 0, 1) := by decide +kernel
theorem dX5_ofKnown_139 : decode cX5_ofKnown 139 = .ok (.getfield 33, 3) := by decide +kernel
theorem dX5_ofKnown_142 : decode cX5_ofKnown 142 = .ok (.getfield 165, 3) := by decide +kernel
theorem dX5_ofKnown_145 : decode cX5_ofKnown 145 = .ok (.iload_n 1, 1) := by decide +kernel
theorem dX5_ofKnown_146 : decode cX5_ofKnown 146 = .ok (.iaload, 1) := by decide +kernel
theorem dX5_ofKnown_147 : decode cX5_ofKnown 147 = .ok (.ireturn, 1) := by decide +kernel
theorem dX5_ofKnown_148 : decode cX5_ofKnown 148 = .ok (.aload_n 0, 1) := by decide +kernel
theorem dX5_ofKnown_149 : decode cX5_ofKnown 149 = .ok (.getfield 33, 3) := by decide +kernel
theorem dX5_ofKnown_152 : decode cX5_ofKnown 152 = .ok (.getfield 168, 3) := by decide +kernel
theorem dX5_ofKnown_155 : decode cX5_ofKnown 155 = .ok (.iload_n 1, 1) := by decide +kernel
theorem dX5_ofKnown_156 : decode cX5_ofKnown 156 = .ok (.laload, 1) := by decide +kernel
theorem dX5_ofKnown_157 : decode cX5_ofKnown 157 = .ok (.invokestatic 104, 3) := by decide +kernel
theorem dX5_ofKnown_160 : decode cX5_ofKnown 160 = .ok (.ireturn, 1) := by decide +kernel
theorem dX5_ofKnown_161 : decode cX5_ofKnown 161 = .ok (.aload_n 0, 1) := by decide +kernel
theorem dX5_ofKnown_162 : decode cX5_ofKnown 162 = .ok (.getfield 33, 3) := by decide +kernel
theorem dX5_ofKnown_165 : decode cX5_ofKnown 165 = .ok (.iload_n 1, 1) := by decide +kernel
theorem dX5_ofKnown_166 : decode cX5_ofKnown 166 = .ok (.aload_n 0, 1) := by decide +kernel
theorem dX5_ofKnown_167 : decode cX5_ofKnown 167 = .ok (.getfield 33, 3) := by decide +kernel
theorem dX5_ofKnown_170 : decode cX5_ofKnown 170 = .ok (.getfield 171, 3) := by decide +kernel
theorem dX5_ofKnown_173 : decode cX5_ofKnown 173 = .ok (.invokevirtual 174, 3) := by decide +kernel
theorem dX5_ofKnown_176 : decode cX5_ofKnown 176 = .ok (.invokestatic 104, 3) := by decide +kernel
theorem dX5_ofKnown_179 : decode cX5_ofKnown 179 = .ok (.ireturn, 1) := by decide +kernel
set_option maxRecDepth 20000 in
theorem ggX5_ofEdge_X5_checkEdge : GoodIn wsX5_ofEdge wsX5_checkEdge := goodIn_ca (goodIn_r _ [7, 8, 9] (by decide +kernel) (by decide +kernel)) (goodIn_sub (fun _ h => List.mem_cons_of_mem _ (List.mem_append_right _ h)) (by decide +kernel))
set_option maxRecDepth 20000 in
theorem gX5_ofEdge_X5_checkEdge : GoodIn wsX5_ofEdge (va_wsS RX5 178 yX5_checkEdge wsX5_checkEdge) := goodIn_app (goodIn_of _ (by decide +kernel)) ggX5_ofEdge_X5_checkEdge
set_option maxRecDepth 20000 in
theorem ggX5_ofEdge_X0_coverersOf : GoodIn wsX5_ofEdge wsX0_coverersOf := goodIn_r _ [14, 15, 16, 17, 6, 18, 19, 20, 41, 42, 43, 44, 45, 46] (by decide +kernel) (by decide +kernel)
set_option maxRecDepth 20000 in
theorem gX5_ofEdge_X0_coverersOf : GoodIn wsX5_ofEdge (wsV RX5 183 RX0 yX0_coverersOf wsX0_coverersOf) := goodIn_app (goodIn_of _ (by decide +kernel)) ggX5_ofEdge_X0_coverersOf
set_option maxRecDepth 20000 in
theorem ggX5_ofEdge_J13_bitCount_95d88 : GoodIn wsX5_ofEdge wsJ13_bitCount_95d88 := goodIn_r _ [24, 25, 26, 27] (by decide +kernel) (by decide +kernel)
set_option maxRecDepth 20000 in
theorem gX5_ofEdge_J13_bitCount_95d88 : GoodIn wsX5_ofEdge (va_wsS RX5 187 yJ13_bitCount_95d88 wsJ13_bitCount_95d88) := goodIn_app (goodIn_of _ (by decide +kernel)) ggX5_ofEdge_J13_bitCount_95d88
set_option maxRecDepth 20000 in
theorem ggX5_ofEdge_J13_numberOfTrailingZeros_95d88 : GoodIn wsX5_ofEdge wsJ13_numberOfTrailingZeros_95d88 := goodIn_r _ [30, 31, 32, 33, 34, 35] (by decide +kernel) (by decide +kernel)
set_option maxRecDepth 20000 in
theorem gX5_ofEdge_J13_numberOfTrailingZeros_95d88 : GoodIn wsX5_ofEdge (va_wsS RX5 192 yJ13_numberOfTrailingZeros_95d88 wsJ13_numberOfTrailingZeros_95d88) := goodIn_app (goodIn_of _ (by decide +kernel)) ggX5_ofEdge_J13_numberOfTrailingZeros_95d88
theorem dX5_ofEdge_0 : decode cX5_ofEdge 0 = .ok (.iload_n 1, 1) := by decide +kernel
theorem dX5_ofEdge_1 : decode cX5_ofEdge 1 = .ok (.invokestatic 178, 3) := by decide +kernel
theorem dX5_ofEdge_4 : decode cX5_ofEdge 4 = .ok (.iload_n 2, 1) := by decide +kernel
theorem dX5_ofEdge_5 : decode cX5_ofEdge 5 = .ok (.ifCond .lt 8, 3) := by decide +kernel
theorem dX5_ofEdge_8 : decode cX5_ofEdge 8 = .ok (.iload_n 2, 1) := by decide +kernel
theorem dX5_ofEdge_9 : decode cX5_ofEdge 9 = .ok (.iconst 2, 1) := by decide +kernel
theorem dX5_ofEdge_10 : decode cX5_ofEdge 10 = .ok (.if_icmp .le 13, 3) := by decide +kernel
theorem dX5_ofEdge_13 : decode cX5_ofEdge 13 = .ok (.new 117, 3) := by decide +kernel
theorem dX5_ofEdge_16 : decode cX5_ofEdge 16 = .ok (.dup, 1) := by decide +kernel
theorem dX5_ofEdge_17 : decode cX5_ofEdge 17 = .ok (.ldc 181, 2) := by decide +kernel
theorem dX5_ofEdge_19 : decode cX5_ofEdge 19 = .ok (.invokespecial 121, 3) := by decide +kernel
theorem dX5_ofEdge_22 : decode cX5_ofEdge 22 = .ok (.athrow, 1) := by decide +kernel
theorem dX5_ofEdge_23 : decode cX5_ofEdge 23 = .ok (.aload_n 0, 1) := by decide +kernel
theorem dX5_ofEdge_24 : decode cX5_ofEdge 24 = .ok (.getfield 33, 3) := by decide +kernel
theorem dX5_ofEdge_27 : decode cX5_ofEdge 27 = .ok (.iload_n 1, 1) := by decide +kernel
theorem dX5_ofEdge_28 : decode cX5_ofEdge 28 = .ok (.invokevirtual 183, 3) := by decide +kernel
theorem dX5_ofEdge_31 : decode cX5_ofEdge 31 = .ok (.lstore_n 3, 1) := by decide +kernel
theorem dX5_ofEdge_32 : decode cX5_ofEdge 32 = .ok (.iload_n 2, 1) := by decide +kernel
theorem dX5_ofEdge_33 : decode cX5_ofEdge 33 = .ok (.lookupswitch 45 #[(0, 27), (1, 40)], 27) := by decide +kernel
theorem dX5_ofEdge_60 : decode cX5_ofEdge 60 = .ok (.lload_n 3, 1) := by decide +kernel
theorem dX5_ofEdge_61 : decode cX5_ofEdge 61 = .ok (.aload_n 0, 1) := by decide +kernel
theorem dX5_ofEdge_62 : decode cX5_ofEdge 62 = .ok (.getfield 33, 3) := by decide +kernel
theorem dX5_ofEdge_65 : decode cX5_ofEdge 65 = .ok (.getfield 171, 3) := by decide +kernel
theorem dX5_ofEdge_68 : decode cX5_ofEdge 68 = .ok (.land, 1) := by decide +kernel
theorem dX5_ofEdge_69 : decode cX5_ofEdge 69 = .ok (.invokestatic 187, 3) := by decide +kernel
theorem dX5_ofEdge_72 : decode cX5_ofEdge 72 = .ok (.ireturn, 1) := by decide +kernel
theorem dX5_ofEdge_73 : decode cX5_ofEdge 73 = .ok (.lload_n 3, 1) := by decide +kernel
theorem dX5_ofEdge_74 : decode cX5_ofEdge 74 = .ok (.invokestatic 187, 3) := by decide +kernel
theorem dX5_ofEdge_77 : decode cX5_ofEdge 77 = .ok (.ireturn, 1) := by decide +kernel
theorem dX5_ofEdge_78 : decode cX5_ofEdge 78 = .ok (.lload_n 3, 1) := by decide +kernel
theorem dX5_ofEdge_79 : decode cX5_ofEdge 79 = .ok (.lconst 0, 1) := by decide +kernel
theorem dX5_ofEdge_80 : decode cX5_ofEdge 80 = .ok (.lcmp, 1) := by decide +kernel
theorem dX5_ofEdge_81 : decode cX5_ofEdge 81 = .ok (.ifCond .ne 7, 3) := by decide +kernel
theorem dX5_ofEdge_84 : decode cX5_ofEdge 84 = .ok (.iconst (-1), 1) := by decide +kernel
theorem dX5_ofEdge_85 : decode cX5_ofEdge 85 = .ok (.goto 7, 3) := by decide +kernel
theorem dX5_ofEdge_88 : decode cX5_ofEdge 88 = .ok (.lload_n 3, 1) := by decide +kernel
theorem dX5_ofEdge_89 : decode cX5_ofEdge 89 = .ok (.invokestatic 192, 3) := by decide +kernel
theorem dX5_ofEdge_92 : decode cX5_ofEdge 92 = .ok (.ireturn, 1) := by decide +kernel
set_option maxRecDepth 20000 in
theorem ggX5_many_J13_bitCount_95d88 : GoodIn wsX5_many wsJ13_bitCount_95d88 := goodIn_r _ [10, 11, 12, 13] (by decide +kernel) (by decide +kernel)
set_option maxRecDepth 20000 in
theorem gX5_many_J13_bitCount_95d88 : GoodIn wsX5_many (va_wsS RX5 187 yJ13_bitCount_95d88 wsJ13_bitCount_95d88) := goodIn_app (goodIn_of _ (by decide +kernel)) ggX5_many_J13_bitCount_95d88
set_option maxRecDepth 20000 in
theorem ggX5_many_X0_foundBy : GoodIn wsX5_many wsX0_foundBy := goodIn_r _ [18, 19, 20, 21, 22, 48, 49, 50, 51, 52, 53] (by decide +kernel) (by decide +kernel)
set_option maxRecDepth 20000 in
theorem gX5_many_X0_foundBy : GoodIn wsX5_many (wsV RX5 197 RX0 yX0_foundBy wsX0_foundBy) := goodIn_app (goodIn_of _ (by decide +kernel)) ggX5_many_X0_foundBy
set_option maxRecDepth 20000 in
theorem ggX5_many_X5_edgesIn : GoodIn wsX5_many wsX5_edgesIn := goodIn_r _ [25, 26, 7, 8, 9, 10, 11, 12, 13] (by decide +kernel) (by decide +kernel)
set_option maxRecDepth 20000 in
theorem gX5_many_X5_edgesIn : GoodIn wsX5_many (va_wsS RX5 104 yX5_edgesIn wsX5_edgesIn) := goodIn_app (goodIn_of _ (by decide +kernel)) ggX5_many_X5_edgesIn
set_option maxRecDepth 20000 in
theorem ggX5_many_X0_allKnown : GoodIn wsX5_many wsX0_allKnown := goodIn_r _ [30, 31, 32, 21, 33, 48, 49, 50, 51, 52, 53] (by decide +kernel) (by decide +kernel)
set_option maxRecDepth 20000 in
theorem gX5_many_X0_allKnown : GoodIn wsX5_many (wsV RX5 201 RX0 yX0_allKnown wsX0_allKnown) := goodIn_app (goodIn_of _ (by decide +kernel)) ggX5_many_X0_allKnown
set_option maxRecDepth 20000 in
theorem ggX5_many_X2_reachableNodes : GoodIn wsX5_many wsX2_reachableNodes := goodIn_r _ [38, 39, 20, 21, 22, 40, 41, 32, 33, 42, 8, 9, 10, 11, 12, 13, 62, 63, 64, 65, 66] (by decide +kernel) (by decide +kernel)
set_option maxRecDepth 20000 in
theorem gX5_many_X2_reachableNodes : GoodIn wsX5_many (wsV RX5 206 RX2 yX2_reachableNodes wsX2_reachableNodes) := goodIn_app (goodIn_of _ (by decide +kernel)) ggX5_many_X2_reachableNodes
theorem dX5_many_0 : decode cX5_many 0 = .ok (.iload_n 1, 1) := by decide +kernel
theorem dX5_many_1 : decode cX5_many 1 = .ok (.ifCond .lt 9, 3) := by decide +kernel
theorem dX5_many_4 : decode cX5_many 4 = .ok (.iload_n 1, 1) := by decide +kernel
theorem dX5_many_5 : decode cX5_many 5 = .ok (.bipush 7, 2) := by decide +kernel
theorem dX5_many_7 : decode cX5_many 7 = .ok (.if_icmp .le 13, 3) := by decide +kernel
theorem dX5_many_10 : decode cX5_many 10 = .ok (.new 117, 3) := by decide +kernel
theorem dX5_many_13 : decode cX5_many 13 = .ok (.dup, 1) := by decide +kernel
theorem dX5_many_14 : decode cX5_many 14 = .ok (.ldc 195, 2) := by decide +kernel
theorem dX5_many_16 : decode cX5_many 16 = .ok (.invokespecial 121, 3) := by decide +kernel
theorem dX5_many_19 : decode cX5_many 19 = .ok (.athrow, 1) := by decide +kernel
theorem dX5_many_20 : decode cX5_many 20 = .ok (.iload_n 1, 1) := by decide +kernel
theorem dX5_many_21 : decode cX5_many 21 = .ok (.tableswitch 135 0 6 #[43, 51, 62, 80, 98, 119, 127], 43) := by decide +kernel
theorem dX5_many_64 : decode cX5_many 64 = .ok (.aload_n 0, 1) := by decide +kernel
theorem dX5_many_65 : decode cX5_many 65 = .ok (.getfield 33, 3) := by decide +kernel
theorem dX5_many_68 : decode cX5_many 68 = .ok (.getfield 151, 3) := by decide +kernel
theorem dX5_many_71 : decode cX5_many 71 = .ok (.ireturn, 1) := by decide +kernel
theorem dX5_many_72 : decode cX5_many 72 = .ok (.aload_n 0, 1) := by decide +kernel
theorem dX5_many_73 : decode cX5_many 73 = .ok (.getfield 33, 3) := by decide +kernel
theorem dX5_many_76 : decode cX5_many 76 = .ok (.getfield 171, 3) := by decide +kernel
theorem dX5_many_79 : decode cX5_many 79 = .ok (.invokestatic 187, 3) := by decide +kernel
theorem dX5_many_82 : decode cX5_many 82 = .ok (.ireturn, 1) := by decide +kernel
theorem dX5_many_83 : decode cX5_many 83 = .ok (.aload_n 0, 1) := by decide +kernel
theorem dX5_many_84 : decode cX5_many 84 = .ok (.getfield 33, 3) := by decide +kernel
theorem dX5_many_87 : decode cX5_many 87 = .ok (.aload_n 0, 1) := by decide +kernel
theorem dX5_many_88 : decode cX5_many 88 = .ok (.getfield 33, 3) := by decide +kernel
theorem dX5_many_91 : decode cX5_many 91 = .ok (.getfield 171, 3) := by decide +kernel
theorem dX5_many_94 : decode cX5_many 94 = .ok (.invokevirtual 197, 3) := by decide +kernel
theorem dX5_many_97 : decode cX5_many 97 = .ok (.invokestatic 104, 3) := by decide +kernel
theorem dX5_many_100 : decode cX5_many 100 = .ok (.ireturn, 1) := by decide +kernel
theorem dX5_many_101 : decode cX5_many 101 = .ok (.aload_n 0, 1) := by decide +kernel
theorem dX5_many_102 : decode cX5_many 102 = .ok (.getfield 33, 3) := by decide +kernel
theorem dX5_many_105 : decode cX5_many 105 = .ok (.aload_n 0, 1) := by decide +kernel
theorem dX5_many_106 : decode cX5_many 106 = .ok (.getfield 33, 3) := by decide +kernel
theorem dX5_many_109 : decode cX5_many 109 = .ok (.invokevirtual 201, 3) := by decide +kernel
theorem dX5_many_112 : decode cX5_many 112 = .ok (.invokevirtual 197, 3) := by decide +kernel
theorem dX5_many_115 : decode cX5_many 115 = .ok (.invokestatic 104, 3) := by decide +kernel
theorem dX5_many_118 : decode cX5_many 118 = .ok (.ireturn, 1) := by decide +kernel
theorem dX5_many_119 : decode cX5_many 119 = .ok (.aload_n 0, 1) := by decide +kernel
theorem dX5_many_120 : decode cX5_many 120 = .ok (.getfield 33, 3) := by decide +kernel
theorem dX5_many_123 : decode cX5_many 123 = .ok (.aload_n 0, 1) := by decide +kernel
theorem dX5_many_124 : decode cX5_many 124 = .ok (.getfield 33, 3) := by decide +kernel
theorem dX5_many_127 : decode cX5_many 127 = .ok (.getfield 171, 3) := by decide +kernel
theorem dX5_many_130 : decode cX5_many 130 = .ok (.invokevirtual 197, 3) := by decide +kernel
theorem dX5_many_133 : decode cX5_many 133 = .ok (.bipush 24, 2) := by decide +kernel
theorem dX5_many_135 : decode cX5_many 135 = .ok (.lushr, 1) := by decide +kernel
theorem dX5_many_136 : decode cX5_many 136 = .ok (.invokestatic 187, 3) := by decide +kernel
theorem dX5_many_139 : decode cX5_many 139 = .ok (.ireturn, 1) := by decide +kernel
theorem dX5_many_140 : decode cX5_many 140 = .ok (.aload_n 0, 1) := by decide +kernel
theorem dX5_many_141 : decode cX5_many 141 = .ok (.getfield 40, 3) := by decide +kernel
theorem dX5_many_144 : decode cX5_many 144 = .ok (.getfield 205, 3) := by decide +kernel
theorem dX5_many_147 : decode cX5_many 147 = .ok (.ireturn, 1) := by decide +kernel
theorem dX5_many_148 : decode cX5_many 148 = .ok (.aload_n 0, 1) := by decide +kernel
theorem dX5_many_149 : decode cX5_many 149 = .ok (.getfield 26, 3) := by decide +kernel
theorem dX5_many_152 : decode cX5_many 152 = .ok (.getfield 122, 3) := by decide +kernel
theorem dX5_many_155 : decode cX5_many 155 = .ok (.ireturn, 1) := by decide +kernel
theorem dX5_many_156 : decode cX5_many 156 = .ok (.aload_n 0, 1) := by decide +kernel
theorem dX5_many_157 : decode cX5_many 157 = .ok (.getfield 10, 3) := by decide +kernel
theorem dX5_many_160 : decode cX5_many 160 = .ok (.invokevirtual 206, 3) := by decide +kernel
theorem dX5_many_163 : decode cX5_many 163 = .ok (.ireturn, 1) := by decide +kernel
set_option maxRecDepth 20000 in
theorem ggX5_meanEnergy_J13_bitCount_95d88 : GoodIn wsX5_meanEnergy wsJ13_bitCount_95d88 := goodIn_r _ [5, 6, 7, 8] (by decide +kernel) (by decide +kernel)
set_option maxRecDepth 20000 in
theorem gX5_meanEnergy_J13_bitCount_95d88 : GoodIn wsX5_meanEnergy (va_wsS RX5 187 yJ13_bitCount_95d88 wsJ13_bitCount_95d88) := goodIn_app (goodIn_of _ (by decide +kernel)) ggX5_meanEnergy_J13_bitCount_95d88
set_option maxRecDepth 20000 in
theorem ggX5_meanEnergy_X0_wholeEnergy : GoodIn wsX5_meanEnergy wsX0_wholeEnergy := goodIn_r _ [13, 14, 15, 16, 17, 12, 18, 19, 20, 21, 22, 23, 24, 25, 26, 27, 28, 29, 30, 31, 32, 33, 34, 35, 36, 37, 38, 39, 40, 41, 42, 43, 44, 45, 46, 2, 3, 4, 5, 6, 7, 8, 52, 53, 54, 55, 56, 57] (by decide +kernel) (by decide +kernel)
set_option maxRecDepth 20000 in
theorem gX5_meanEnergy_X0_wholeEnergy : GoodIn wsX5_meanEnergy (wsV RX5 209 RX0 yX0_wholeEnergy wsX0_wholeEnergy) := goodIn_app (goodIn_of _ (by decide +kernel)) ggX5_meanEnergy_X0_wholeEnergy
theorem dX5_meanEnergy_0 : decode cX5_meanEnergy 0 = .ok (.aload_n 0, 1) := by decide +kernel
theorem dX5_meanEnergy_1 : decode cX5_meanEnergy 1 = .ok (.getfield 33, 3) := by decide +kernel
theorem dX5_meanEnergy_4 : decode cX5_meanEnergy 4 = .ok (.getfield 171, 3) := by decide +kernel
theorem dX5_meanEnergy_7 : decode cX5_meanEnergy 7 = .ok (.invokestatic 187, 3) := by decide +kernel
theorem dX5_meanEnergy_10 : decode cX5_meanEnergy 10 = .ok (.istore_n 1, 1) := by decide +kernel
theorem dX5_meanEnergy_11 : decode cX5_meanEnergy 11 = .ok (.iload_n 1, 1) := by decide +kernel
theorem dX5_meanEnergy_12 : decode cX5_meanEnergy 12 = .ok (.ifCond .ne 5, 3) := by decide +kernel
theorem dX5_meanEnergy_15 : decode cX5_meanEnergy 15 = .ok (.dconst 0, 1) := by decide +kernel
theorem dX5_meanEnergy_16 : decode cX5_meanEnergy 16 = .ok (.dreturn, 1) := by decide +kernel
theorem dX5_meanEnergy_17 : decode cX5_meanEnergy 17 = .ok (.aload_n 0, 1) := by decide +kernel
theorem dX5_meanEnergy_18 : decode cX5_meanEnergy 18 = .ok (.getfield 33, 3) := by decide +kernel
theorem dX5_meanEnergy_21 : decode cX5_meanEnergy 21 = .ok (.invokevirtual 209, 3) := by decide +kernel
theorem dX5_meanEnergy_24 : decode cX5_meanEnergy 24 = .ok (.i2d, 1) := by decide +kernel
theorem dX5_meanEnergy_25 : decode cX5_meanEnergy 25 = .ok (.iload_n 1, 1) := by decide +kernel
theorem dX5_meanEnergy_26 : decode cX5_meanEnergy 26 = .ok (.i2d, 1) := by decide +kernel
theorem dX5_meanEnergy_27 : decode cX5_meanEnergy 27 = .ok (.ddiv, 1) := by decide +kernel
theorem dX5_meanEnergy_28 : decode cX5_meanEnergy 28 = .ok (.dreturn, 1) := by decide +kernel
set_option maxRecDepth 20000 in
theorem ggX5_shrink_X5_checkCase : GoodIn wsX5_shrink wsX5_checkCase := goodIn_ca (goodIn_r _ [6, 1, 2] (by decide +kernel) (by decide +kernel)) (goodIn_sub (fun _ h => List.mem_cons_of_mem _ (List.mem_append_right _ h)) (by decide +kernel))
set_option maxRecDepth 20000 in
theorem gX5_shrink_X5_checkCase : GoodIn wsX5_shrink (va_wsS RX5 74 yX5_checkCase wsX5_checkCase) := goodIn_app (goodIn_of _ (by decide +kernel)) ggX5_shrink_X5_checkCase
set_option maxRecDepth 20000 in
theorem ggX5_shrink_X5_resultOf : GoodIn wsX5_shrink wsX5_resultOf := goodIn_r _ [10, 11, 12, 13, 14, 15, 16, 17, 18, 19, 20, 21, 22, 23, 24, 25, 26, 27, 28, 5, 29, 30, 31, 32, 33, 34, 35, 36, 37, 38, 39, 40, 41, 42, 43, 44, 45, 46, 47, 48, 49, 50, 51, 67, 68, 69, 70, 71, 72, 73, 74, 75, 76, 77, 78, 79, 80] (by decide +kernel) (by decide +kernel)
set_option maxRecDepth 20000 in
theorem gX5_shrink_X5_resultOf : GoodIn wsX5_shrink (wsV RX5 77 RX5 yX5_resultOf wsX5_resultOf) := goodIn_app (goodIn_of _ (by decide +kernel)) ggX5_shrink_X5_resultOf
set_option maxRecDepth 20000 in
theorem ggX5_shrink_X5_shrunk : GoodIn wsX5_shrink wsX5_shrunk := goodIn_r _ [55, 56, 57, 58, 5, 59, 60, 37, 38, 61, 62, 63, 64, 65, 66, 7, 8, 9, 10, 11, 12, 13, 14, 15, 16, 17, 18, 19, 20, 21, 22, 23, 24, 25, 26, 27, 28, 29, 30, 31, 32, 33, 34, 35, 36, 39, 40, 41, 42, 43, 44, 45, 46, 47, 48, 49, 50, 51, 67, 68, 69, 70, 71, 72, 73, 74, 75, 76, 77, 78, 79, 80] (by decide +kernel) (by decide +kernel)
set_option maxRecDepth 20000 in
theorem gX5_shrink_X5_shrunk : GoodIn wsX5_shrink (wsV RX5 214 RX5 yX5_shrunk wsX5_shrunk) := goodIn_app (goodIn_of _ (by decide +kernel)) ggX5_shrink_X5_shrunk
theorem dX5_shrink_0 : decode cX5_shrink 0 = .ok (.iload_n 1, 1) := by decide +kernel
theorem dX5_shrink_1 : decode cX5_shrink 1 = .ok (.invokestatic 74, 3) := by decide +kernel
theorem dX5_shrink_4 : decode cX5_shrink 4 = .ok (.aload_n 0, 1) := by decide +kernel
theorem dX5_shrink_5 : decode cX5_shrink 5 = .ok (.iload_n 1, 1) := by decide +kernel
theorem dX5_shrink_6 : decode cX5_shrink 6 = .ok (.invokevirtual 77, 3) := by decide +kernel
theorem dX5_shrink_9 : decode cX5_shrink 9 = .ok (.istore_n 2, 1) := by decide +kernel
theorem dX5_shrink_10 : decode cX5_shrink 10 = .ok (.iload_n 2, 1) := by decide +kernel
theorem dX5_shrink_11 : decode cX5_shrink 11 = .ok (.bipush 100, 2) := by decide +kernel
theorem dX5_shrink_13 : decode cX5_shrink 13 = .ok (.if_icmp .ge 13, 3) := by decide +kernel
theorem dX5_shrink_16 : decode cX5_shrink 16 = .ok (.new 117, 3) := by decide +kernel
theorem dX5_shrink_19 : decode cX5_shrink 19 = .ok (.dup, 1) := by decide +kernel
theorem dX5_shrink_20 : decode cX5_shrink 20 = .ok (.ldc 212, 2) := by decide +kernel
theorem dX5_shrink_22 : decode cX5_shrink 22 = .ok (.invokespecial 121, 3) := by decide +kernel
theorem dX5_shrink_25 : decode cX5_shrink 25 = .ok (.athrow, 1) := by decide +kernel
theorem dX5_shrink_26 : decode cX5_shrink 26 = .ok (.aload_n 0, 1) := by decide +kernel
theorem dX5_shrink_27 : decode cX5_shrink 27 = .ok (.iload_n 1, 1) := by decide +kernel
theorem dX5_shrink_28 : decode cX5_shrink 28 = .ok (.iload_n 2, 1) := by decide +kernel
theorem dX5_shrink_29 : decode cX5_shrink 29 = .ok (.invokevirtual 214, 3) := by decide +kernel
theorem dX5_shrink_32 : decode cX5_shrink 32 = .ok (.ireturn, 1) := by decide +kernel
set_option maxRecDepth 20000 in
theorem ggX5_relation_X5_checkSlot : GoodIn wsX5_relation wsX5_checkSlot := goodIn_ca (goodIn_r _ [9, 10, 11] (by decide +kernel) (by decide +kernel)) (goodIn_sub (fun _ h => List.mem_cons_of_mem _ (List.mem_append_right _ h)) (by decide +kernel))
set_option maxRecDepth 20000 in
theorem gX5_relation_X5_checkSlot : GoodIn wsX5_relation (va_wsS RX5 48 yX5_checkSlot wsX5_checkSlot) := goodIn_app (goodIn_of _ (by decide +kernel)) ggX5_relation_X5_checkSlot
set_option maxRecDepth 20000 in
theorem ggX5_relation_X3_add : GoodIn wsX5_relation wsX3_add := goodIn_r _ [16, 17, 18, 19, 20, 26, 27, 28, 29] (by decide +kernel) (by decide +kernel)
set_option maxRecDepth 20000 in
theorem gX5_relation_X3_add : GoodIn wsX5_relation (wsV RX5 224 RX3 yX3_add wsX3_add) := goodIn_app (goodIn_of _ (by decide +kernel)) ggX5_relation_X3_add
theorem dX5_relation_0 : decode cX5_relation 0 = .ok (.iload_n 1, 1) := by decide +kernel
theorem dX5_relation_1 : decode cX5_relation 1 = .ok (.ifCond .eq 18, 3) := by decide +kernel
theorem dX5_relation_4 : decode cX5_relation 4 = .ok (.iload_n 1, 1) := by decide +kernel
theorem dX5_relation_5 : decode cX5_relation 5 = .ok (.iconst 1, 1) := by decide +kernel
theorem dX5_relation_6 : decode cX5_relation 6 = .ok (.if_icmp .eq 13, 3) := by decide +kernel
theorem dX5_relation_9 : decode cX5_relation 9 = .ok (.new 117, 3) := by decide +kernel
theorem dX5_relation_12 : decode cX5_relation 12 = .ok (.dup, 1) := by decide +kernel
theorem dX5_relation_13 : decode cX5_relation 13 = .ok (.ldc 218, 2) := by decide +kernel
theorem dX5_relation_15 : decode cX5_relation 15 = .ok (.invokespecial 121, 3) := by decide +kernel
theorem dX5_relation_18 : decode cX5_relation 18 = .ok (.athrow, 1) := by decide +kernel
theorem dX5_relation_19 : decode cX5_relation 19 = .ok (.iload_n 1, 1) := by decide +kernel
theorem dX5_relation_20 : decode cX5_relation 20 = .ok (.ifCond .ne 18, 3) := by decide +kernel
theorem dX5_relation_23 : decode cX5_relation 23 = .ok (.iload_n 3, 1) := by decide +kernel
theorem dX5_relation_24 : decode cX5_relation 24 = .ok (.iload_n 2, 1) := by decide +kernel
theorem dX5_relation_25 : decode cX5_relation 25 = .ok (.if_icmp .ne 13, 3) := by decide +kernel
theorem dX5_relation_28 : decode cX5_relation 28 = .ok (.new 117, 3) := by decide +kernel
theorem dX5_relation_31 : decode cX5_relation 31 = .ok (.dup, 1) := by decide +kernel
theorem dX5_relation_32 : decode cX5_relation 32 = .ok (.ldc 220, 2) := by decide +kernel
theorem dX5_relation_34 : decode cX5_relation 34 = .ok (.invokespecial 121, 3) := by decide +kernel
theorem dX5_relation_37 : decode cX5_relation 37 = .ok (.athrow, 1) := by decide +kernel
theorem dX5_relation_38 : decode cX5_relation 38 = .ok (.iload_n 2, 1) := by decide +kernel
theorem dX5_relation_39 : decode cX5_relation 39 = .ok (.invokestatic 48, 3) := by decide +kernel
theorem dX5_relation_42 : decode cX5_relation 42 = .ok (.iload_n 1, 1) := by decide +kernel
theorem dX5_relation_43 : decode cX5_relation 43 = .ok (.ifCond .ne 7, 3) := by decide +kernel
theorem dX5_relation_46 : decode cX5_relation 46 = .ok (.iload_n 3, 1) := by decide +kernel
theorem dX5_relation_47 : decode cX5_relation 47 = .ok (.invokestatic 48, 3) := by decide +kernel
theorem dX5_relation_50 : decode cX5_relation 50 = .ok (.aload_n 0, 1) := by decide +kernel
theorem dX5_relation_51 : decode cX5_relation 51 = .ok (.getfield 40, 3) := by decide +kernel
theorem dX5_relation_54 : decode cX5_relation 54 = .ok (.getfield 205, 3) := by decide +kernel
theorem dX5_relation_57 : decode cX5_relation 57 = .ok (.bipush 6, 2) := by decide +kernel
theorem dX5_relation_59 : decode cX5_relation 59 = .ok (.if_icmp .lt 13, 3) := by decide +kernel
theorem dX5_relation_62 : decode cX5_relation 62 = .ok (.new 137, 3) := by decide +kernel
theorem dX5_relation_65 : decode cX5_relation 65 = .ok (.dup, 1) := by decide +kernel
theorem dX5_relation_66 : decode cX5_relation 66 = .ok (.ldc 222, 2) := by decide +kernel
theorem dX5_relation_68 : decode cX5_relation 68 = .ok (.invokespecial 141, 3) := by decide +kernel
theorem dX5_relation_71 : decode cX5_relation 71 = .ok (.athrow, 1) := by decide +kernel
theorem dX5_relation_72 : decode cX5_relation 72 = .ok (.aload_n 0, 1) := by decide +kernel
theorem dX5_relation_73 : decode cX5_relation 73 = .ok (.getfield 40, 3) := by decide +kernel
theorem dX5_relation_76 : decode cX5_relation 76 = .ok (.iload_n 1, 1) := by decide +kernel
theorem dX5_relation_77 : decode cX5_relation 77 = .ok (.iload_n 2, 1) := by decide +kernel
theorem dX5_relation_78 : decode cX5_relation 78 = .ok (.iload_n 3, 1) := by decide +kernel
theorem dX5_relation_79 : decode cX5_relation 79 = .ok (.invokevirtual 224, 3) := by decide +kernel
theorem dX5_relation_82 : decode cX5_relation 82 = .ok (.ireturn, 1) := by decide +kernel
set_option maxRecDepth 20000 in
theorem ggX5_breaks_X5_checkRelation : GoodIn wsX5_breaks wsX5_checkRelation := goodIn_ca (goodIn_r _ [6, 7, 8, 1, 77, 78, 79, 80, 81, 82, 83, 84, 85] (by decide +kernel) (by decide +kernel)) (goodIn_sub (fun _ h => List.mem_cons_of_mem _ (List.mem_append_left _ (List.mem_append_right _ h))) (by decide +kernel))
set_option maxRecDepth 20000 in
theorem gX5_breaks_X5_checkRelation : GoodIn wsX5_breaks (wsV RX5 228 RX5 yX5_checkRelation wsX5_checkRelation) := goodIn_app (goodIn_of _ (by decide +kernel)) ggX5_breaks_X5_checkRelation
set_option maxRecDepth 20000 in
theorem ggX5_breaks_X5_checkCase : GoodIn wsX5_breaks wsX5_checkCase := goodIn_ca (goodIn_r _ [11, 12, 13] (by decide +kernel) (by decide +kernel)) (goodIn_sub (fun _ h => List.mem_cons_of_mem _ (List.mem_append_right _ h)) (by decide +kernel))
set_option maxRecDepth 20000 in
theorem gX5_breaks_X5_checkCase : GoodIn wsX5_breaks (va_wsS RX5 74 yX5_checkCase wsX5_checkCase) := goodIn_app (goodIn_of _ (by decide +kernel)) ggX5_breaks_X5_checkCase
set_option maxRecDepth 20000 in
theorem ggX5_breaks_X5_resultOf : GoodIn wsX5_breaks wsX5_resultOf := goodIn_r _ [17, 18, 19, 20, 21, 22, 23, 24, 25, 26, 27, 28, 29, 30, 31, 32, 33, 34, 35, 5, 36, 37, 38, 39, 40, 41, 42, 43, 44, 45, 46, 47, 48, 49, 50, 51, 52, 53, 54, 55, 56, 57, 58, 77, 78, 79, 80, 81, 86, 87, 88, 89, 90, 91, 92, 93, 94] (by decide +kernel) (by decide +kernel)
set_option maxRecDepth 20000 in
theorem gX5_breaks_X5_resultOf : GoodIn wsX5_breaks (wsV RX5 77 RX5 yX5_resultOf wsX5_resultOf) := goodIn_app (goodIn_of _ (by decide +kernel)) ggX5_breaks_X5_resultOf
set_option maxRecDepth 20000 in
theorem ggX5_breaks_X3_changed : GoodIn wsX5_breaks wsX3_changed := goodIn_r _ [63, 64, 65, 66, 67, 68, 69, 70, 44, 5, 45, 71, 72, 73, 74, 75, 76, 82, 83, 84, 85] (by decide +kernel) (by decide +kernel)
set_option maxRecDepth 20000 in
theorem gX5_breaks_X3_changed : GoodIn wsX5_breaks (wsV RX5 231 RX3 yX3_changed wsX3_changed) := goodIn_app (goodIn_of _ (by decide +kernel)) ggX5_breaks_X3_changed
theorem dX5_breaks_0 : decode cX5_breaks 0 = .ok (.aload_n 0, 1) := by decide +kernel
theorem dX5_breaks_1 : decode cX5_breaks 1 = .ok (.iload_n 1, 1) := by decide +kernel
theorem dX5_breaks_2 : decode cX5_breaks 2 = .ok (.invokevirtual 228, 3) := by decide +kernel
theorem dX5_breaks_5 : decode cX5_breaks 5 = .ok (.iload_n 2, 1) := by decide +kernel
theorem dX5_breaks_6 : decode cX5_breaks 6 = .ok (.invokestatic 74, 3) := by decide +kernel
theorem dX5_breaks_9 : decode cX5_breaks 9 = .ok (.aload_n 0, 1) := by decide +kernel
theorem dX5_breaks_10 : decode cX5_breaks 10 = .ok (.iload_n 2, 1) := by decide +kernel
theorem dX5_breaks_11 : decode cX5_breaks 11 = .ok (.invokevirtual 77, 3) := by decide +kernel
theorem dX5_breaks_14 : decode cX5_breaks 14 = .ok (.aload_n 0, 1) := by decide +kernel
theorem dX5_breaks_15 : decode cX5_breaks 15 = .ok (.aload_n 0, 1) := by decide +kernel
theorem dX5_breaks_16 : decode cX5_breaks 16 = .ok (.getfield 40, 3) := by decide +kernel
theorem dX5_breaks_19 : decode cX5_breaks 19 = .ok (.iload_n 1, 1) := by decide +kernel
theorem dX5_breaks_20 : decode cX5_breaks 20 = .ok (.iload_n 2, 1) := by decide +kernel
theorem dX5_breaks_21 : decode cX5_breaks 21 = .ok (.invokevirtual 231, 3) := by decide +kernel
theorem dX5_breaks_24 : decode cX5_breaks 24 = .ok (.invokevirtual 77, 3) := by decide +kernel
theorem dX5_breaks_27 : decode cX5_breaks 27 = .ok (.if_icmp .eq 7, 3) := by decide +kernel
theorem dX5_breaks_30 : decode cX5_breaks 30 = .ok (.iconst 1, 1) := by decide +kernel
theorem dX5_breaks_31 : decode cX5_breaks 31 = .ok (.goto 4, 3) := by decide +kernel
theorem dX5_breaks_34 : decode cX5_breaks 34 = .ok (.iconst 0, 1) := by decide +kernel
theorem dX5_breaks_35 : decode cX5_breaks 35 = .ok (.ireturn, 1) := by decide +kernel
set_option maxRecDepth 20000 in
theorem ggX5_brokenBy_X5_checkRelation : GoodIn wsX5_brokenBy wsX5_checkRelation := goodIn_ca (goodIn_r _ [7, 8, 9, 2, 73, 74, 75, 76, 77, 84, 85, 86, 87] (by decide +kernel) (by decide +kernel)) (goodIn_sub (fun _ h => List.mem_cons_of_mem _ (List.mem_append_right _ h)) (by decide +kernel))
set_option maxRecDepth 20000 in
theorem gX5_brokenBy_X5_checkRelation : GoodIn wsX5_brokenBy (wsV RX5 228 RX5 yX5_checkRelation wsX5_checkRelation) := goodIn_app (goodIn_of _ (by decide +kernel)) ggX5_brokenBy_X5_checkRelation
set_option maxRecDepth 20000 in
theorem ggX5_brokenBy_X3_changed : GoodIn wsX5_brokenBy wsX3_changed := goodIn_r _ [14, 15, 16, 17, 18, 19, 20, 21, 22, 6, 23, 24, 25, 26, 27, 28, 29, 84, 85, 86, 87] (by decide +kernel) (by decide +kernel)
set_option maxRecDepth 20000 in
theorem gX5_brokenBy_X3_changed : GoodIn wsX5_brokenBy (wsV RX5 231 RX3 yX3_changed wsX3_changed) := goodIn_app (goodIn_of _ (by decide +kernel)) ggX5_brokenBy_X3_changed
set_option maxRecDepth 20000 in
theorem ggX5_brokenBy_X5_resultOf : GoodIn wsX5_brokenBy wsX5_resultOf := goodIn_r _ [33, 34, 35, 36, 37, 38, 39, 40, 41, 42, 43, 44, 45, 46, 47, 48, 49, 50, 51, 6, 52, 53, 54, 55, 56, 57, 58, 59, 22, 23, 60, 61, 62, 63, 64, 65, 66, 67, 68, 69, 70, 71, 72, 73, 74, 75, 76, 77, 88, 89, 90, 91, 92, 93, 94, 95, 96] (by decide +kernel) (by decide +kernel)
set_option maxRecDepth 20000 in
theorem gX5_brokenBy_X5_resultOf : GoodIn wsX5_brokenBy (wsV RX5 77 RX5 yX5_resultOf wsX5_resultOf) := goodIn_app (goodIn_of _ (by decide +kernel)) ggX5_brokenBy_X5_resultOf
theorem dX5_brokenBy_0 : decode cX5_brokenBy 0 = .ok (.aload_n 0, 1) := by decide +kernel
theorem dX5_brokenBy_1 : decode cX5_brokenBy 1 = .ok (.iload_n 1, 1) := by decide +kernel
theorem dX5_brokenBy_2 : decode cX5_brokenBy 2 = .ok (.invokevirtual 228, 3) := by decide +kernel
theorem dX5_brokenBy_5 : decode cX5_brokenBy 5 = .ok (.iconst 0, 1) := by decide +kernel
theorem dX5_brokenBy_6 : decode cX5_brokenBy 6 = .ok (.istore_n 2, 1) := by decide +kernel
theorem dX5_brokenBy_7 : decode cX5_brokenBy 7 = .ok (.iload_n 2, 1) := by decide +kernel
theorem dX5_brokenBy_8 : decode cX5_brokenBy 8 = .ok (.aload_n 0, 1) := by decide +kernel
theorem dX5_brokenBy_9 : decode cX5_brokenBy 9 = .ok (.getfield 33, 3) := by decide +kernel
theorem dX5_brokenBy_12 : decode cX5_brokenBy 12 = .ok (.getfield 151, 3) := by decide +kernel
theorem dX5_brokenBy_15 : decode cX5_brokenBy 15 = .ok (.if_icmp .ge 52, 3) := by decide +kernel
theorem dX5_brokenBy_18 : decode cX5_brokenBy 18 = .ok (.iload_n 2, 1) := by decide +kernel
theorem dX5_brokenBy_19 : decode cX5_brokenBy 19 = .ok (.bipush 40, 2) := by decide +kernel
theorem dX5_brokenBy_21 : decode cX5_brokenBy 21 = .ok (.if_icmp .ge 46, 3) := by decide +kernel
theorem dX5_brokenBy_24 : decode cX5_brokenBy 24 = .ok (.aload_n 0, 1) := by decide +kernel
theorem dX5_brokenBy_25 : decode cX5_brokenBy 25 = .ok (.getfield 40, 3) := by decide +kernel
theorem dX5_brokenBy_28 : decode cX5_brokenBy 28 = .ok (.iload_n 1, 1) := by decide +kernel
theorem dX5_brokenBy_29 : decode cX5_brokenBy 29 = .ok (.aload_n 0, 1) := by decide +kernel
theorem dX5_brokenBy_30 : decode cX5_brokenBy 30 = .ok (.getfield 33, 3) := by decide +kernel
theorem dX5_brokenBy_33 : decode cX5_brokenBy 33 = .ok (.getfield 145, 3) := by decide +kernel
theorem dX5_brokenBy_36 : decode cX5_brokenBy 36 = .ok (.iload_n 2, 1) := by decide +kernel
theorem dX5_brokenBy_37 : decode cX5_brokenBy 37 = .ok (.iaload, 1) := by decide +kernel
theorem dX5_brokenBy_38 : decode cX5_brokenBy 38 = .ok (.invokevirtual 231, 3) := by decide +kernel
theorem dX5_brokenBy_41 : decode cX5_brokenBy 41 = .ok (.istore_n 3, 1) := by decide +kernel
theorem dX5_brokenBy_42 : decode cX5_brokenBy 42 = .ok (.aload_n 0, 1) := by decide +kernel
theorem dX5_brokenBy_43 : decode cX5_brokenBy 43 = .ok (.getfield 33, 3) := by decide +kernel
theorem dX5_brokenBy_46 : decode cX5_brokenBy 46 = .ok (.getfield 165, 3) := by decide +kernel
theorem dX5_brokenBy_49 : decode cX5_brokenBy 49 = .ok (.iload_n 2, 1) := by decide +kernel
theorem dX5_brokenBy_50 : decode cX5_brokenBy 50 = .ok (.iaload, 1) := by decide +kernel
theorem dX5_brokenBy_51 : decode cX5_brokenBy 51 = .ok (.aload_n 0, 1) := by decide +kernel
theorem dX5_brokenBy_52 : decode cX5_brokenBy 52 = .ok (.iload_n 3, 1) := by decide +kernel
theorem dX5_brokenBy_53 : decode cX5_brokenBy 53 = .ok (.invokevirtual 77, 3) := by decide +kernel
theorem dX5_brokenBy_56 : decode cX5_brokenBy 56 = .ok (.if_icmp .eq 5, 3) := by decide +kernel
theorem dX5_brokenBy_59 : decode cX5_brokenBy 59 = .ok (.iload_n 2, 1) := by decide +kernel
theorem dX5_brokenBy_60 : decode cX5_brokenBy 60 = .ok (.ireturn, 1) := by decide +kernel
theorem dX5_brokenBy_61 : decode cX5_brokenBy 61 = .ok (.iinc 2 1, 3) := by decide +kernel
theorem dX5_brokenBy_64 : decode cX5_brokenBy 64 = .ok (.goto (-57), 3) := by decide +kernel
theorem dX5_brokenBy_67 : decode cX5_brokenBy 67 = .ok (.iconst (-1), 1) := by decide +kernel
theorem dX5_brokenBy_68 : decode cX5_brokenBy 68 = .ok (.ireturn, 1) := by decide +kernel
set_option maxRecDepth 20000 in
theorem ggX5_wouldDrop_X5_checkCase : GoodIn wsX5_wouldDrop wsX5_checkCase := goodIn_ca (goodIn_r _ [8, 9, 10] (by decide +kernel) (by decide +kernel)) (goodIn_sub (fun _ h => List.mem_cons_of_mem _ (List.mem_append_right _ h)) (by decide +kernel))
set_option maxRecDepth 20000 in
theorem gX5_wouldDrop_X5_checkCase : GoodIn wsX5_wouldDrop (va_wsS RX5 74 yX5_checkCase wsX5_checkCase) := goodIn_app (goodIn_of _ (by decide +kernel)) ggX5_wouldDrop_X5_checkCase
set_option maxRecDepth 20000 in
theorem ggX5_wouldDrop_X2_follow : GoodIn wsX5_wouldDrop wsX2_follow := goodIn_r _ [15, 16, 17, 18, 19, 20, 21, 22, 23, 24, 25, 26, 7, 27, 28, 29, 30, 14, 31, 32, 33, 34, 35, 36, 37, 38, 39, 40, 41, 42, 43, 44, 45, 46, 47, 48, 49, 101, 102, 103, 104, 105, 106, 107, 108, 109] (by decide +kernel) (by decide +kernel)
set_option maxRecDepth 20000 in
theorem gX5_wouldDrop_X2_follow : GoodIn wsX5_wouldDrop (wsV RX5 81 RX2 yX2_follow wsX2_follow) := goodIn_app (goodIn_of _ (by decide +kernel)) ggX5_wouldDrop_X2_follow
set_option maxRecDepth 20000 in
theorem ggX5_wouldDrop_X0_keptIfTasted : GoodIn wsX5_wouldDrop wsX0_keptIfTasted := goodIn_r _ [54, 55, 56, 57, 58, 59, 60, 53, 61, 62, 63, 64, 65, 66, 67, 68, 69, 70, 71, 72, 42, 7, 43, 73, 74, 75, 76, 77, 78, 79, 80, 81, 82, 95, 96, 97, 98, 99, 100, 106, 107, 108, 109] (by decide +kernel) (by decide +kernel)
set_option maxRecDepth 20000 in
theorem gX5_wouldDrop_X0_keptIfTasted : GoodIn wsX5_wouldDrop (wsV RX5 234 RX0 yX0_keptIfTasted wsX0_keptIfTasted) := goodIn_app (goodIn_of _ (by decide +kernel)) ggX5_wouldDrop_X0_keptIfTasted
set_option maxRecDepth 20000 in
theorem ggX5_wouldDrop_J13_bitCount_95d88 : GoodIn wsX5_wouldDrop wsJ13_bitCount_95d88 := goodIn_r _ [86, 87, 88, 89] (by decide +kernel) (by decide +kernel)
set_option maxRecDepth 20000 in
theorem gX5_wouldDrop_J13_bitCount_95d88 : GoodIn wsX5_wouldDrop (va_wsS RX5 187 yJ13_bitCount_95d88 wsJ13_bitCount_95d88) := goodIn_app (goodIn_of _ (by decide +kernel)) ggX5_wouldDrop_J13_bitCount_95d88
theorem dX5_wouldDrop_0 : decode cX5_wouldDrop 0 = .ok (.iload_n 1, 1) := by decide +kernel
theorem dX5_wouldDrop_1 : decode cX5_wouldDrop 1 = .ok (.invokestatic 74, 3) := by decide +kernel
theorem dX5_wouldDrop_4 : decode cX5_wouldDrop 4 = .ok (.aload_n 0, 1) := by decide +kernel
theorem dX5_wouldDrop_5 : decode cX5_wouldDrop 5 = .ok (.getfield 10, 3) := by decide +kernel
theorem dX5_wouldDrop_8 : decode cX5_wouldDrop 8 = .ok (.iload_n 1, 1) := by decide +kernel
theorem dX5_wouldDrop_9 : decode cX5_wouldDrop 9 = .ok (.aload_n 0, 1) := by decide +kernel
theorem dX5_wouldDrop_10 : decode cX5_wouldDrop 10 = .ok (.getfield 19, 3) := by decide +kernel
theorem dX5_wouldDrop_13 : decode cX5_wouldDrop 13 = .ok (.invokevirtual 81, 3) := by decide +kernel
theorem dX5_wouldDrop_16 : decode cX5_wouldDrop 16 = .ok (.aload_n 0, 1) := by decide +kernel
theorem dX5_wouldDrop_17 : decode cX5_wouldDrop 17 = .ok (.getfield 33, 3) := by decide +kernel
theorem dX5_wouldDrop_20 : decode cX5_wouldDrop 20 = .ok (.iload_n 1, 1) := by decide +kernel
theorem dX5_wouldDrop_21 : decode cX5_wouldDrop 21 = .ok (.aload_n 0, 1) := by decide +kernel
theorem dX5_wouldDrop_22 : decode cX5_wouldDrop 22 = .ok (.getfield 19, 3) := by decide +kernel
theorem dX5_wouldDrop_25 : decode cX5_wouldDrop 25 = .ok (.invokevirtual 234, 3) := by decide +kernel
theorem dX5_wouldDrop_28 : decode cX5_wouldDrop 28 = .ok (.lstore_n 2, 1) := by decide +kernel
theorem dX5_wouldDrop_29 : decode cX5_wouldDrop 29 = .ok (.lload_n 2, 1) := by decide +kernel
theorem dX5_wouldDrop_30 : decode cX5_wouldDrop 30 = .ok (.aload_n 0, 1) := by decide +kernel
theorem dX5_wouldDrop_31 : decode cX5_wouldDrop 31 = .ok (.getfield 33, 3) := by decide +kernel
theorem dX5_wouldDrop_34 : decode cX5_wouldDrop 34 = .ok (.getfield 171, 3) := by decide +kernel
theorem dX5_wouldDrop_37 : decode cX5_wouldDrop 37 = .ok (.lcmp, 1) := by decide +kernel
theorem dX5_wouldDrop_38 : decode cX5_wouldDrop 38 = .ok (.ifCond .ne 5, 3) := by decide +kernel
theorem dX5_wouldDrop_41 : decode cX5_wouldDrop 41 = .ok (.iconst (-1), 1) := by decide +kernel
theorem dX5_wouldDrop_42 : decode cX5_wouldDrop 42 = .ok (.ireturn, 1) := by decide +kernel
theorem dX5_wouldDrop_43 : decode cX5_wouldDrop 43 = .ok (.aload_n 0, 1) := by decide +kernel
theorem dX5_wouldDrop_44 : decode cX5_wouldDrop 44 = .ok (.getfield 33, 3) := by decide +kernel
theorem dX5_wouldDrop_47 : decode cX5_wouldDrop 47 = .ok (.getfield 171, 3) := by decide +kernel
theorem dX5_wouldDrop_50 : decode cX5_wouldDrop 50 = .ok (.lload_n 2, 1) := by decide +kernel
theorem dX5_wouldDrop_51 : decode cX5_wouldDrop 51 = .ok (.ldc2_w 238, 3) := by decide +kernel
theorem dX5_wouldDrop_54 : decode cX5_wouldDrop 54 = .ok (.lxor, 1) := by decide +kernel
theorem dX5_wouldDrop_55 : decode cX5_wouldDrop 55 = .ok (.land, 1) := by decide +kernel
theorem dX5_wouldDrop_56 : decode cX5_wouldDrop 56 = .ok (.invokestatic 187, 3) := by decide +kernel
theorem dX5_wouldDrop_59 : decode cX5_wouldDrop 59 = .ok (.ireturn, 1) := by decide +kernel
set_option maxRecDepth 20000 in
theorem ggX5_otherwise_X5_checkNode : GoodIn wsX5_otherwise wsX5_checkNode := goodIn_ca (goodIn_r _ [6, 7, 8, 9, 10, 5, 11] (by decide +kernel) (by decide +kernel)) (goodIn_sub (fun _ h => List.mem_cons_of_mem _ (List.mem_append_left _ (List.mem_append_right _ h))) (by decide +kernel))
set_option maxRecDepth 20000 in
theorem gX5_otherwise_X5_checkNode : GoodIn wsX5_otherwise (va_wsS RX5 44 yX5_checkNode wsX5_checkNode) := goodIn_app (goodIn_of _ (by decide +kernel)) ggX5_otherwise_X5_checkNode
set_option maxRecDepth 20000 in
theorem ggX5_otherwise_X5_checkQuestion : GoodIn wsX5_otherwise wsX5_checkQuestion := goodIn_ca (goodIn_r _ [14, 15, 16] (by decide +kernel) (by decide +kernel)) (goodIn_sub (fun _ h => List.mem_cons_of_mem _ (List.mem_append_right _ h)) (by decide +kernel))
set_option maxRecDepth 20000 in
theorem gX5_otherwise_X5_checkQuestion : GoodIn wsX5_otherwise (va_wsS RX5 51 yX5_checkQuestion wsX5_checkQuestion) := goodIn_app (goodIn_of _ (by decide +kernel)) ggX5_otherwise_X5_checkQuestion
set_option maxRecDepth 20000 in
theorem ggX5_otherwise_X2_setQuestion : GoodIn wsX5_otherwise wsX2_setQuestion := goodIn_r _ [21, 22, 23, 24, 68, 69, 70, 71, 72] (by decide +kernel) (by decide +kernel)
set_option maxRecDepth 20000 in
theorem gX5_otherwise_X2_setQuestion : GoodIn wsX5_otherwise (wsV RX5 55 RX2 yX2_setQuestion wsX2_setQuestion) := goodIn_app (goodIn_of _ (by decide +kernel)) ggX5_otherwise_X2_setQuestion
set_option maxRecDepth 20000 in
theorem ggX5_otherwise_X5_resultOf : GoodIn wsX5_otherwise wsX5_resultOf := goodIn_r _ [28, 1, 29, 30, 31, 32, 20, 33, 34, 35, 36, 37, 38, 39, 40, 41, 42, 43, 10, 5, 11, 44, 45, 46, 47, 22, 23, 24, 48, 49, 50, 51, 52, 53, 54, 55, 56, 57, 58, 59, 60, 61, 62, 63, 64, 65, 66, 67, 79, 80, 81, 82, 68, 69, 70, 71, 72] (by decide +kernel) (by decide +kernel)
set_option maxRecDepth 20000 in
theorem gX5_otherwise_X5_resultOf : GoodIn wsX5_otherwise (wsV RX5 77 RX5 yX5_resultOf wsX5_resultOf) := goodIn_app (goodIn_of _ (by decide +kernel)) ggX5_otherwise_X5_resultOf
