set_option maxHeartbeats 400000 in
set_option maxRecDepth 100000 in
theorem k_tzI (l : Launch) {D : va_G} {cI cL cZ cQ : ClassId} (x : Int32)  : PM l yJ6_numberOfTrailingZeros_0f7a4 wsJ6_numberOfTrailingZeros_0f7a4 ({ frames := 0, cells := 0, slots := 0, locals := 0 } : Room) D (gTys cI cL cZ cQ) [.int x] [] (fun (_ : Unit) => True) (fun (_ : Unit) => some (.int (ks_tzI x))) := by
  refine PM.ofG cJ6_numberOfTrailingZeros_0f7a4 2 (some .int) (by decide +kernel) rfl (Nat.le_of_ble_eq_true rfl) ?_
  intro p e s m below meth c B hr hlocks hname hK hN
  refine g_iload_n B dJ6_numberOfTrailingZeros_0f7a4_0 0 rfl ?_
  refine g_iconst (v := (-1 : Int32)) B dJ6_numberOfTrailingZeros_0f7a4_1 (by decide) ?_
  refine g_ixor (v := (x ^^^ (-1 : Int32))) B dJ6_numberOfTrailingZeros_0f7a4_2 (rfl) ?_
  refine g_iload_n B dJ6_numberOfTrailingZeros_0f7a4_3 0 rfl ?_
  refine g_iconst (v := (1 : Int32)) B dJ6_numberOfTrailingZeros_0f7a4_4 (by decide) ?_
  refine g_isub (v := (x - (1 : Int32))) B dJ6_numberOfTrailingZeros_0f7a4_5 (rfl) ?_
  refine g_iand (v := ((x ^^^ (-1 : Int32)) &&& (x - (1 : Int32)))) B dJ6_numberOfTrailingZeros_0f7a4_6 (rfl) ?_
  refine g_eqi (y := tz_1 x) rfl ?_
  refine g_istore_n (lv' := [(0, .int (tz_1 x))]) B dJ6_numberOfTrailingZeros_0f7a4_7 rfl (by decide) [0] rfl ?_
  refine g_iload_n B dJ6_numberOfTrailingZeros_0f7a4_8 0 rfl ?_
  refine g_if_gt (tgt := 17) B dJ6_numberOfTrailingZeros_0f7a4_9 (by decide) (fun c1 => ?_) (fun c1 => ?_)
  · refine g_iconst (v := (1 : Int32)) B dJ6_numberOfTrailingZeros_0f7a4_17 (by decide) ?_
    refine g_istore_n (lv' := [(0, .int (tz_1 x)), (1, .int (1 : Int32))]) B dJ6_numberOfTrailingZeros_0f7a4_18 rfl (by decide) [1, 0] rfl ?_
    refine g_iload_n B dJ6_numberOfTrailingZeros_0f7a4_19 0 rfl ?_
    refine g_ldc_w (v := (65536 : Int32)) B dJ6_numberOfTrailingZeros_0f7a4_20 (List.mem_of_getElem? (i := 1) rfl) ?_
    refine g_icmp_le (tgt := 34) B dJ6_numberOfTrailingZeros_0f7a4_23 (by decide) (fun c2 => ?_) (fun c2 => ?_)
    · refine g_iload_n B dJ6_numberOfTrailingZeros_0f7a4_34 0 rfl ?_
      refine g_sipush (v := (256 : Int32)) B dJ6_numberOfTrailingZeros_0f7a4_35 (by decide) ?_
      refine g_icmp_le (tgt := 49) B dJ6_numberOfTrailingZeros_0f7a4_38 (by decide) (fun c3 => ?_) (fun c3 => ?_)
      · refine g_iload_n B dJ6_numberOfTrailingZeros_0f7a4_49 0 rfl ?_
        refine g_bipush (v := (16 : Int32)) B dJ6_numberOfTrailingZeros_0f7a4_50 (by decide) ?_
        refine g_icmp_le (tgt := 62) B dJ6_numberOfTrailingZeros_0f7a4_52 (by decide) (fun c4 => ?_) (fun c4 => ?_)
        · refine g_iload_n B dJ6_numberOfTrailingZeros_0f7a4_62 0 rfl ?_
          refine g_iconst (v := (4 : Int32)) B dJ6_numberOfTrailingZeros_0f7a4_63 (by decide) ?_
          refine g_icmp_le (tgt := 74) B dJ6_numberOfTrailingZeros_0f7a4_64 (by decide) (fun c5 => ?_) (fun c5 => ?_)
          · refine g_iload_n B dJ6_numberOfTrailingZeros_0f7a4_74 1 rfl ?_
            refine g_iload_n B dJ6_numberOfTrailingZeros_0f7a4_75 0 rfl ?_
            refine g_iconst (v := (1 : Int32)) B dJ6_numberOfTrailingZeros_0f7a4_76 (by decide) ?_
            refine g_iushr (v := (iShr (tz_1 x) (1 : Int32))) B dJ6_numberOfTrailingZeros_0f7a4_77 rfl ?_
            refine g_iadd (v := ((1 : Int32) + (iShr (tz_1 x) (1 : Int32)))) B dJ6_numberOfTrailingZeros_0f7a4_78 (rfl) ?_
            exact g_iret_p B hr rfl hlocks () (by have e : ks_tzI x = (tz_d (tz_c (tz_b (tz_a (tz_1 x))))).1 + iShr (tz_d (tz_c (tz_b (tz_a (tz_1 x))))).2 1 := if_pos c1; rw [show tz_a (tz_1 x) = ((1 : Int32), tz_1 x) from if_pos c2, show tz_b ((1 : Int32), tz_1 x) = ((1 : Int32), tz_1 x) from if_pos c3, show tz_c ((1 : Int32), tz_1 x) = ((1 : Int32), tz_1 x) from if_pos c4, show tz_d ((1 : Int32), tz_1 x) = ((1 : Int32), tz_1 x) from if_pos c5] at e; exact congrArg (fun z => some (Value.int z)) e) (trivial) dJ6_numberOfTrailingZeros_0f7a4_79
          · refine g_iinc (lv' := [(0, .int (tz_1 x)), (1, .int (3 : Int32))]) B dJ6_numberOfTrailingZeros_0f7a4_67 1 rfl (by decide) (by decide) [1, 0] rfl ?_
            refine g_iload_n B dJ6_numberOfTrailingZeros_0f7a4_70 0 rfl ?_
            refine g_iconst (v := (2 : Int32)) B dJ6_numberOfTrailingZeros_0f7a4_71 (by decide) ?_
            refine g_iushr (v := (iShr (tz_1 x) (2 : Int32))) B dJ6_numberOfTrailingZeros_0f7a4_72 rfl ?_
            refine g_istore_n (lv' := [(0, .int (iShr (tz_1 x) (2 : Int32))), (1, .int (3 : Int32))]) B dJ6_numberOfTrailingZeros_0f7a4_73 rfl (by decide) [0, 1] rfl ?_
            refine g_iload_n B dJ6_numberOfTrailingZeros_0f7a4_74 1 rfl ?_
            refine g_iload_n B dJ6_numberOfTrailingZeros_0f7a4_75 0 rfl ?_
            refine g_iconst (v := (1 : Int32)) B dJ6_numberOfTrailingZeros_0f7a4_76 (by decide) ?_
            refine g_iushr (v := (iShr (iShr (tz_1 x) (2 : Int32)) (1 : Int32))) B dJ6_numberOfTrailingZeros_0f7a4_77 rfl ?_
            refine g_iadd (v := ((3 : Int32) + (iShr (iShr (tz_1 x) (2 : Int32)) (1 : Int32)))) B dJ6_numberOfTrailingZeros_0f7a4_78 (rfl) ?_
            exact g_iret_p B hr rfl hlocks () (by have e : ks_tzI x = (tz_d (tz_c (tz_b (tz_a (tz_1 x))))).1 + iShr (tz_d (tz_c (tz_b (tz_a (tz_1 x))))).2 1 := if_pos c1; rw [show tz_a (tz_1 x) = ((1 : Int32), tz_1 x) from if_pos c2, show tz_b ((1 : Int32), tz_1 x) = ((1 : Int32), tz_1 x) from if_pos c3, show tz_c ((1 : Int32), tz_1 x) = ((1 : Int32), tz_1 x) from if_pos c4, show tz_d ((1 : Int32), tz_1 x) = ((3 : Int32), iShr (tz_1 x) 2) from (if_neg c5).trans (by show ((1 : Int32) + Int32.ofInt 2, iShr (tz_1 x) 2) = _; rw [show (1 : Int32) + Int32.ofInt 2 = 3 from by decide])] at e; exact congrArg (fun z => some (Value.int z)) e) (trivial) dJ6_numberOfTrailingZeros_0f7a4_79
        · refine g_iinc (lv' := [(0, .int (tz_1 x)), (1, .int (5 : Int32))]) B dJ6_numberOfTrailingZeros_0f7a4_55 1 rfl (by decide) (by decide) [1, 0] rfl ?_
          refine g_iload_n B dJ6_numberOfTrailingZeros_0f7a4_58 0 rfl ?_
          refine g_iconst (v := (4 : Int32)) B dJ6_numberOfTrailingZeros_0f7a4_59 (by decide) ?_
          refine g_iushr (v := (iShr (tz_1 x) (4 : Int32))) B dJ6_numberOfTrailingZeros_0f7a4_60 rfl ?_
          refine g_istore_n (lv' := [(0, .int (iShr (tz_1 x) (4 : Int32))), (1, .int (5 : Int32))]) B dJ6_numberOfTrailingZeros_0f7a4_61 rfl (by decide) [0, 1] rfl ?_
          refine g_iload_n B dJ6_numberOfTrailingZeros_0f7a4_62 0 rfl ?_
          refine g_iconst (v := (4 : Int32)) B dJ6_numberOfTrailingZeros_0f7a4_63 (by decide) ?_
          refine g_icmp_le (tgt := 74) B dJ6_numberOfTrailingZeros_0f7a4_64 (by decide) (fun c6 => ?_) (fun c6 => ?_)
          · refine g_iload_n B dJ6_numberOfTrailingZeros_0f7a4_74 1 rfl ?_
            refine g_iload_n B dJ6_numberOfTrailingZeros_0f7a4_75 0 rfl ?_
            refine g_iconst (v := (1 : Int32)) B dJ6_numberOfTrailingZeros_0f7a4_76 (by decide) ?_
            refine g_iushr (v := (iShr (iShr (tz_1 x) (4 : Int32)) (1 : Int32))) B dJ6_numberOfTrailingZeros_0f7a4_77 rfl ?_
            refine g_iadd (v := ((5 : Int32) + (iShr (iShr (tz_1 x) (4 : Int32)) (1 : Int32)))) B dJ6_numberOfTrailingZeros_0f7a4_78 (rfl) ?_
            exact g_iret_p B hr rfl hlocks () (by have e : ks_tzI x = (tz_d (tz_c (tz_b (tz_a (tz_1 x))))).1 + iShr (tz_d (tz_c (tz_b (tz_a (tz_1 x))))).2 1 := if_pos c1; rw [show tz_a (tz_1 x) = ((1 : Int32), tz_1 x) from if_pos c2, show tz_b ((1 : Int32), tz_1 x) = ((1 : Int32), tz_1 x) from if_pos c3, show tz_c ((1 : Int32), tz_1 x) = ((5 : Int32), iShr (tz_1 x) 4) from (if_neg c4).trans (by show ((1 : Int32) + Int32.ofInt 4, iShr (tz_1 x) 4) = _; rw [show (1 : Int32) + Int32.ofInt 4 = 5 from by decide]), show tz_d ((5 : Int32), iShr (tz_1 x) 4) = ((5 : Int32), iShr (tz_1 x) 4) from if_pos c6] at e; exact congrArg (fun z => some (Value.int z)) e) (trivial) dJ6_numberOfTrailingZeros_0f7a4_79
          · refine g_iinc (lv' := [(0, .int (iShr (tz_1 x) (4 : Int32))), (1, .int (7 : Int32))]) B dJ6_numberOfTrailingZeros_0f7a4_67 1 rfl (by decide) (by decide) [1, 0] rfl ?_
            refine g_iload_n B dJ6_numberOfTrailingZeros_0f7a4_70 0 rfl ?_
            refine g_iconst (v := (2 : Int32)) B dJ6_numberOfTrailingZeros_0f7a4_71 (by decide) ?_
            refine g_iushr (v := (iShr (iShr (tz_1 x) (4 : Int32)) (2 : Int32))) B dJ6_numberOfTrailingZeros_0f7a4_72 rfl ?_
            refine g_istore_n (lv' := [(0, .int (iShr (iShr (tz_1 x) (4 : Int32)) (2 : Int32))), (1, .int (7 : Int32))]) B dJ6_numberOfTrailingZeros_0f7a4_73 rfl (by decide) [0, 1] rfl ?_
            refine g_iload_n B dJ6_numberOfTrailingZeros_0f7a4_74 1 rfl ?_
            refine g_iload_n B dJ6_numberOfTrailingZeros_0f7a4_75 0 rfl ?_
            refine g_iconst (v := (1 : Int32)) B dJ6_numberOfTrailingZeros_0f7a4_76 (by decide) ?_
            refine g_iushr (v := (iShr (iShr (iShr (tz_1 x) (4 : Int32)) (2 : Int32)) (1 : Int32))) B dJ6_numberOfTrailingZeros_0f7a4_77 rfl ?_
            refine g_iadd (v := ((7 : Int32) + (iShr (iShr (iShr (tz_1 x) (4 : Int32)) (2 : Int32)) (1 : Int32)))) B dJ6_numberOfTrailingZeros_0f7a4_78 (rfl) ?_
            exact g_iret_p B hr rfl hlocks () (by have e : ks_tzI x = (tz_d (tz_c (tz_b (tz_a (tz_1 x))))).1 + iShr (tz_d (tz_c (tz_b (tz_a (tz_1 x))))).2 1 := if_pos c1; rw [show tz_a (tz_1 x) = ((1 : Int32), tz_1 x) from if_pos c2, show tz_b ((1 : Int32), tz_1 x) = ((1 : Int32), tz_1 x) from if_pos c3, show tz_c ((1 : Int32), tz_1 x) = ((5 : Int32), iShr (tz_1 x) 4) from (if_neg c4).trans (by show ((1 : Int32) + Int32.ofInt 4, iShr (tz_1 x) 4) = _; rw [show (1 : Int32) + Int32.ofInt 4 = 5 from by decide]), show tz_d ((5 : Int32), iShr (tz_1 x) 4) = ((7 : Int32), iShr (iShr (tz_1 x) 4) 2) from (if_neg c6).trans (by show ((5 : Int32) + Int32.ofInt 2, iShr (iShr (tz_1 x) 4) 2) = _; rw [show (5 : Int32) + Int32.ofInt 2 = 7 from by decide])] at e; exact congrArg (fun z => some (Value.int z)) e) (trivial) dJ6_numberOfTrailingZeros_0f7a4_79
      · refine g_iinc (lv' := [(0, .int (tz_1 x)), (1, .int (9 : Int32))]) B dJ6_numberOfTrailingZeros_0f7a4_41 1 rfl (by decide) (by decide) [1, 0] rfl ?_
        refine g_iload_n B dJ6_numberOfTrailingZeros_0f7a4_44 0 rfl ?_
        refine g_bipush (v := (8 : Int32)) B dJ6_numberOfTrailingZeros_0f7a4_45 (by decide) ?_
        refine g_iushr (v := (iShr (tz_1 x) (8 : Int32))) B dJ6_numberOfTrailingZeros_0f7a4_47 rfl ?_
        refine g_istore_n (lv' := [(0, .int (iShr (tz_1 x) (8 : Int32))), (1, .int (9 : Int32))]) B dJ6_numberOfTrailingZeros_0f7a4_48 rfl (by decide) [0, 1] rfl ?_
        refine g_iload_n B dJ6_numberOfTrailingZeros_0f7a4_49 0 rfl ?_
        refine g_bipush (v := (16 : Int32)) B dJ6_numberOfTrailingZeros_0f7a4_50 (by decide) ?_
        refine g_icmp_le (tgt := 62) B dJ6_numberOfTrailingZeros_0f7a4_52 (by decide) (fun c7 => ?_) (fun c7 => ?_)
        · refine g_iload_n B dJ6_numberOfTrailingZeros_0f7a4_62 0 rfl ?_
          refine g_iconst (v := (4 : Int32)) B dJ6_numberOfTrailingZeros_0f7a4_63 (by decide) ?_
          refine g_icmp_le (tgt := 74) B dJ6_numberOfTrailingZeros_0f7a4_64 (by decide) (fun c8 => ?_) (fun c8 => ?_)
          · refine g_iload_n B dJ6_numberOfTrailingZeros_0f7a4_74 1 rfl ?_
            refine g_iload_n B dJ6_numberOfTrailingZeros_0f7a4_75 0 rfl ?_
            refine g_iconst (v := (1 : Int32)) B dJ6_numberOfTrailingZeros_0f7a4_76 (by decide) ?_
            refine g_iushr (v := (iShr (iShr (tz_1 x) (8 : Int32)) (1 : Int32))) B dJ6_numberOfTrailingZeros_0f7a4_77 rfl ?_
            refine g_iadd (v := ((9 : Int32) + (iShr (iShr (tz_1 x) (8 : Int32)) (1 : Int32)))) B dJ6_numberOfTrailingZeros_0f7a4_78 (rfl) ?_
            exact g_iret_p B hr rfl hlocks () (by have e : ks_tzI x = (tz_d (tz_c (tz_b (tz_a (tz_1 x))))).1 + iShr (tz_d (tz_c (tz_b (tz_a (tz_1 x))))).2 1 := if_pos c1; rw [show tz_a (tz_1 x) = ((1 : Int32), tz_1 x) from if_pos c2, show tz_b ((1 : Int32), tz_1 x) = ((9 : Int32), iShr (tz_1 x) 8) from (if_neg c3).trans (by show ((1 : Int32) + Int32.ofInt 8, iShr (tz_1 x) 8) = _; rw [show (1 : Int32) + Int32.ofInt 8 = 9 from by decide]), show tz_c ((9 : Int32), iShr (tz_1 x) 8) = ((9 : Int32), iShr (tz_1 x) 8) from if_pos c7, show tz_d ((9 : Int32), iShr (tz_1 x) 8) = ((9 : Int32), iShr (tz_1 x) 8) from if_pos c8] at e; exact congrArg (fun z => some (Value.int z)) e) (trivial) dJ6_numberOfTrailingZeros_0f7a4_79
          · refine g_iinc (lv' := [(0, .int (iShr (tz_1 x) (8 : Int32))), (1, .int (11 : Int32))]) B dJ6_numberOfTrailingZeros_0f7a4_67 1 rfl (by decide) (by decide) [1, 0] rfl ?_
            refine g_iload_n B dJ6_numberOfTrailingZeros_0f7a4_70 0 rfl ?_
            refine g_iconst (v := (2 : Int32)) B dJ6_numberOfTrailingZeros_0f7a4_71 (by decide) ?_
            refine g_iushr (v := (iShr (iShr (tz_1 x) (8 : Int32)) (2 : Int32))) B dJ6_numberOfTrailingZeros_0f7a4_72 rfl ?_
            refine g_istore_n (lv' := [(0, .int (iShr (iShr (tz_1 x) (8 : Int32)) (2 : Int32))), (1, .int (11 : Int32))]) B dJ6_numberOfTrailingZeros_0f7a4_73 rfl (by decide) [0, 1] rfl ?_
            refine g_iload_n B dJ6_numberOfTrailingZeros_0f7a4_74 1 rfl ?_
            refine g_iload_n B dJ6_numberOfTrailingZeros_0f7a4_75 0 rfl ?_
            refine g_iconst (v := (1 : Int32)) B dJ6_numberOfTrailingZeros_0f7a4_76 (by decide) ?_
            refine g_iushr (v := (iShr (iShr (iShr (tz_1 x) (8 : Int32)) (2 : Int32)) (1 : Int32))) B dJ6_numberOfTrailingZeros_0f7a4_77 rfl ?_
            refine g_iadd (v := ((11 : Int32) + (iShr (iShr (iShr (tz_1 x) (8 : Int32)) (2 : Int32)) (1 : Int32)))) B dJ6_numberOfTrailingZeros_0f7a4_78 (rfl) ?_
            exact g_iret_p B hr rfl hlocks () (by have e : ks_tzI x = (tz_d (tz_c (tz_b (tz_a (tz_1 x))))).1 + iShr (tz_d (tz_c (tz_b (tz_a (tz_1 x))))).2 1 := if_pos c1; rw [show tz_a (tz_1 x) = ((1 : Int32), tz_1 x) from if_pos c2, show tz_b ((1 : Int32), tz_1 x) = ((9 : Int32), iShr (tz_1 x) 8) from (if_neg c3).trans (by show ((1 : Int32) + Int32.ofInt 8, iShr (tz_1 x) 8) = _; rw [show (1 : Int32) + Int32.ofInt 8 = 9 from by decide]), show tz_c ((9 : Int32), iShr (tz_1 x) 8) = ((9 : Int32), iShr (tz_1 x) 8) from if_pos c7, show tz_d ((9 : Int32), iShr (tz_1 x) 8) = ((11 : Int32), iShr (iShr (tz_1 x) 8) 2) from (if_neg c8).trans (by show ((9 : Int32) + Int32.ofInt 2, iShr (iShr (tz_1 x) 8) 2) = _; rw [show (9 : Int32) + Int32.ofInt 2 = 11 from by decide])] at e; exact congrArg (fun z => some (Value.int z)) e) (trivial) dJ6_numberOfTrailingZeros_0f7a4_79
        · refine g_iinc (lv' := [(0, .int (iShr (tz_1 x) (8 : Int32))), (1, .int (13 : Int32))]) B dJ6_numberOfTrailingZeros_0f7a4_55 1 rfl (by decide) (by decide) [1, 0] rfl ?_
          refine g_iload_n B dJ6_numberOfTrailingZeros_0f7a4_58 0 rfl ?_
          refine g_iconst (v := (4 : Int32)) B dJ6_numberOfTrailingZeros_0f7a4_59 (by decide) ?_
          refine g_iushr (v := (iShr (iShr (tz_1 x) (8 : Int32)) (4 : Int32))) B dJ6_numberOfTrailingZeros_0f7a4_60 rfl ?_
          refine g_istore_n (lv' := [(0, .int (iShr (iShr (tz_1 x) (8 : Int32)) (4 : Int32))), (1, .int (13 : Int32))]) B dJ6_numberOfTrailingZeros_0f7a4_61 rfl (by decide) [0, 1] rfl ?_
          refine g_iload_n B dJ6_numberOfTrailingZeros_0f7a4_62 0 rfl ?_
          refine g_iconst (v := (4 : Int32)) B dJ6_numberOfTrailingZeros_0f7a4_63 (by decide) ?_
          refine g_icmp_le (tgt := 74) B dJ6_numberOfTrailingZeros_0f7a4_64 (by decide) (fun c9 => ?_) (fun c9 => ?_)
          · refine g_iload_n B dJ6_numberOfTrailingZeros_0f7a4_74 1 rfl ?_
            refine g_iload_n B dJ6_numberOfTrailingZeros_0f7a4_75 0 rfl ?_
            refine g_iconst (v := (1 : Int32)) B dJ6_numberOfTrailingZeros_0f7a4_76 (by decide) ?_
            refine g_iushr (v := (iShr (iShr (iShr (tz_1 x) (8 : Int32)) (4 : Int32)) (1 : Int32))) B dJ6_numberOfTrailingZeros_0f7a4_77 rfl ?_
            refine g_iadd (v := ((13 : Int32) + (iShr (iShr (iShr (tz_1 x) (8 : Int32)) (4 : Int32)) (1 : Int32)))) B dJ6_numberOfTrailingZeros_0f7a4_78 (rfl) ?_
            exact g_iret_p B hr rfl hlocks () (by have e : ks_tzI x = (tz_d (tz_c (tz_b (tz_a (tz_1 x))))).1 + iShr (tz_d (tz_c (tz_b (tz_a (tz_1 x))))).2 1 := if_pos c1; rw [show tz_a (tz_1 x) = ((1 : Int32), tz_1 x) from if_pos c2, show tz_b ((1 : Int32), tz_1 x) = ((9 : Int32), iShr (tz_1 x) 8) from (if_neg c3).trans (by show ((1 : Int32) + Int32.ofInt 8, iShr (tz_1 x) 8) = _; rw [show (1 : Int32) + Int32.ofInt 8 = 9 from by decide]), show tz_c ((9 : Int32), iShr (tz_1 x) 8) = ((13 : Int32), iShr (iShr (tz_1 x) 8) 4) from (if_neg c7).trans (by show ((9 : Int32) + Int32.ofInt 4, iShr (iShr (tz_1 x) 8) 4) = _; rw [show (9 : Int32) + Int32.ofInt 4 = 13 from by decide]), show tz_d ((13 : Int32), iShr (iShr (tz_1 x) 8) 4) = ((13 : Int32), iShr (iShr (tz_1 x) 8) 4) from if_pos c9] at e; exact congrArg (fun z => some (Value.int z)) e) (trivial) dJ6_numberOfTrailingZeros_0f7a4_79
          · refine g_iinc (lv' := [(0, .int (iShr (iShr (tz_1 x) (8 : Int32)) (4 : Int32))), (1, .int (15 : Int32))]) B dJ6_numberOfTrailingZeros_0f7a4_67 1 rfl (by decide) (by decide) [1, 0] rfl ?_
            refine g_iload_n B dJ6_numberOfTrailingZeros_0f7a4_70 0 rfl ?_
            refine g_iconst (v := (2 : Int32)) B dJ6_numberOfTrailingZeros_0f7a4_71 (by decide) ?_
            refine g_iushr (v := (iShr (iShr (iShr (tz_1 x) (8 : Int32)) (4 : Int32)) (2 : Int32))) B dJ6_numberOfTrailingZeros_0f7a4_72 rfl ?_
            refine g_istore_n (lv' := [(0, .int (iShr (iShr (iShr (tz_1 x) (8 : Int32)) (4 : Int32)) (2 : Int32))), (1, .int (15 : Int32))]) B dJ6_numberOfTrailingZeros_0f7a4_73 rfl (by decide) [0, 1] rfl ?_
            refine g_iload_n B dJ6_numberOfTrailingZeros_0f7a4_74 1 rfl ?_
            refine g_iload_n B dJ6_numberOfTrailingZeros_0f7a4_75 0 rfl ?_
            refine g_iconst (v := (1 : Int32)) B dJ6_numberOfTrailingZeros_0f7a4_76 (by decide) ?_
            refine g_iushr (v := (iShr (iShr (iShr (iShr (tz_1 x) (8 : Int32)) (4 : Int32)) (2 : Int32)) (1 : Int32))) B dJ6_numberOfTrailingZeros_0f7a4_77 rfl ?_
            refine g_iadd (v := ((15 : Int32) + (iShr (iShr (iShr (iShr (tz_1 x) (8 : Int32)) (4 : Int32)) (2 : Int32)) (1 : Int32)))) B dJ6_numberOfTrailingZeros_0f7a4_78 (rfl) ?_
            exact g_iret_p B hr rfl hlocks () (by have e : ks_tzI x = (tz_d (tz_c (tz_b (tz_a (tz_1 x))))).1 + iShr (tz_d (tz_c (tz_b (tz_a (tz_1 x))))).2 1 := if_pos c1; rw [show tz_a (tz_1 x) = ((1 : Int32), tz_1 x) from if_pos c2, show tz_b ((1 : Int32), tz_1 x) = ((9 : Int32), iShr (tz_1 x) 8) from (if_neg c3).trans (by show ((1 : Int32) + Int32.ofInt 8, iShr (tz_1 x) 8) = _; rw [show (1 : Int32) + Int32.ofInt 8 = 9 from by decide]), show tz_c ((9 : Int32), iShr (tz_1 x) 8) = ((13 : Int32), iShr (iShr (tz_1 x) 8) 4) from (if_neg c7).trans (by show ((9 : Int32) + Int32.ofInt 4, iShr (iShr (tz_1 x) 8) 4) = _; rw [show (9 : Int32) + Int32.ofInt 4 = 13 from by decide]), show tz_d ((13 : Int32), iShr (iShr (tz_1 x) 8) 4) = ((15 : Int32), iShr (iShr (iShr (tz_1 x) 8) 4) 2) from (if_neg c9).trans (by show ((13 : Int32) + Int32.ofInt 2, iShr (iShr (iShr (tz_1 x) 8) 4) 2) = _; rw [show (13 : Int32) + Int32.ofInt 2 = 15 from by decide])] at e; exact congrArg (fun z => some (Value.int z)) e) (trivial) dJ6_numberOfTrailingZeros_0f7a4_79
    · refine g_iinc (lv' := [(0, .int (tz_1 x)), (1, .int (17 : Int32))]) B dJ6_numberOfTrailingZeros_0f7a4_26 1 rfl (by decide) (by decide) [1, 0] rfl ?_
      refine g_iload_n B dJ6_numberOfTrailingZeros_0f7a4_29 0 rfl ?_
      refine g_bipush (v := (16 : Int32)) B dJ6_numberOfTrailingZeros_0f7a4_30 (by decide) ?_
      refine g_iushr (v := (iShr (tz_1 x) (16 : Int32))) B dJ6_numberOfTrailingZeros_0f7a4_32 rfl ?_
      refine g_istore_n (lv' := [(0, .int (iShr (tz_1 x) (16 : Int32))), (1, .int (17 : Int32))]) B dJ6_numberOfTrailingZeros_0f7a4_33 rfl (by decide) [0, 1] rfl ?_
      refine g_iload_n B dJ6_numberOfTrailingZeros_0f7a4_34 0 rfl ?_
      refine g_sipush (v := (256 : Int32)) B dJ6_numberOfTrailingZeros_0f7a4_35 (by decide) ?_
      refine g_icmp_le (tgt := 49) B dJ6_numberOfTrailingZeros_0f7a4_38 (by decide) (fun c10 => ?_) (fun c10 => ?_)
      · refine g_iload_n B dJ6_numberOfTrailingZeros_0f7a4_49 0 rfl ?_
        refine g_bipush (v := (16 : Int32)) B dJ6_numberOfTrailingZeros_0f7a4_50 (by decide) ?_
        refine g_icmp_le (tgt := 62) B dJ6_numberOfTrailingZeros_0f7a4_52 (by decide) (fun c11 => ?_) (fun c11 => ?_)
        · refine g_iload_n B dJ6_numberOfTrailingZeros_0f7a4_62 0 rfl ?_
          refine g_iconst (v := (4 : Int32)) B dJ6_numberOfTrailingZeros_0f7a4_63 (by decide) ?_
          refine g_icmp_le (tgt := 74) B dJ6_numberOfTrailingZeros_0f7a4_64 (by decide) (fun c12 => ?_) (fun c12 => ?_)
          · refine g_iload_n B dJ6_numberOfTrailingZeros_0f7a4_74 1 rfl ?_
            refine g_iload_n B dJ6_numberOfTrailingZeros_0f7a4_75 0 rfl ?_
            refine g_iconst (v := (1 : Int32)) B dJ6_numberOfTrailingZeros_0f7a4_76 (by decide) ?_
            refine g_iushr (v := (iShr (iShr (tz_1 x) (16 : Int32)) (1 : Int32))) B dJ6_numberOfTrailingZeros_0f7a4_77 rfl ?_
            refine g_iadd (v := ((17 : Int32) + (iShr (iShr (tz_1 x) (16 : Int32)) (1 : Int32)))) B dJ6_numberOfTrailingZeros_0f7a4_78 (rfl) ?_
            exact g_iret_p B hr rfl hlocks () (by have e : ks_tzI x = (tz_d (tz_c (tz_b (tz_a (tz_1 x))))).1 + iShr (tz_d (tz_c (tz_b (tz_a (tz_1 x))))).2 1 := if_pos c1; rw [show tz_a (tz_1 x) = ((17 : Int32), iShr (tz_1 x) 16) from (if_neg c2).trans (by show ((1 : Int32) + Int32.ofInt 16, iShr (tz_1 x) 16) = _; rw [show (1 : Int32) + Int32.ofInt 16 = 17 from by decide]), show tz_b ((17 : Int32), iShr (tz_1 x) 16) = ((17 : Int32), iShr (tz_1 x) 16) from if_pos c10, show tz_c ((17 : Int32), iShr (tz_1 x) 16) = ((17 : Int32), iShr (tz_1 x) 16) from if_pos c11, show tz_d ((17 : Int32), iShr (tz_1 x) 16) = ((17 : Int32), iShr (tz_1 x) 16) from if_pos c12] at e; exact congrArg (fun z => some (Value.int z)) e) (trivial) dJ6_numberOfTrailingZeros_0f7a4_79
          · refine g_iinc (lv' := [(0, .int (iShr (tz_1 x) (16 : Int32))), (1, .int (19 : Int32))]) B dJ6_numberOfTrailingZeros_0f7a4_67 1 rfl (by decide) (by decide) [1, 0] rfl ?_
            refine g_iload_n B dJ6_numberOfTrailingZeros_0f7a4_70 0 rfl ?_
            refine g_iconst (v := (2 : Int32)) B dJ6_numberOfTrailingZeros_0f7a4_71 (by decide) ?_
            refine g_iushr (v := (iShr (iShr (tz_1 x) (16 : Int32)) (2 : Int32))) B dJ6_numberOfTrailingZeros_0f7a4_72 rfl ?_
            refine g_istore_n (lv' := [(0, .int (iShr (iShr (tz_1 x) (16 : Int32)) (2 : Int32))), (1, .int (19 : Int32))]) B dJ6_numberOfTrailingZeros_0f7a4_73 rfl (by decide) [0, 1] rfl ?_
            refine g_iload_n B dJ6_numberOfTrailingZeros_0f7a4_74 1 rfl ?_
            refine g_iload_n B dJ6_numberOfTrailingZeros_0f7a4_75 0 rfl ?_
            refine g_iconst (v := (1 : Int32)) B dJ6_numberOfTrailingZeros_0f7a4_76 (by decide) ?_
            refine g_iushr (v := (iShr (iShr (iShr (tz_1 x) (16 : Int32)) (2 : Int32)) (1 : Int32))) B dJ6_numberOfTrailingZeros_0f7a4_77 rfl ?_
            refine g_iadd (v := ((19 : Int32) + (iShr (iShr (iShr (tz_1 x) (16 : Int32)) (2 : Int32)) (1 : Int32)))) B dJ6_numberOfTrailingZeros_0f7a4_78 (rfl) ?_
            exact g_iret_p B hr rfl hlocks () (by have e : ks_tzI x = (tz_d (tz_c (tz_b (tz_a (tz_1 x))))).1 + iShr (tz_d (tz_c (tz_b (tz_a (tz_1 x))))).2 1 := if_pos c1; rw [show tz_a (tz_1 x) = ((17 : Int32), iShr (tz_1 x) 16) from (if_neg c2).trans (by show ((1 : Int32) + Int32.ofInt 16, iShr (tz_1 x) 16) = _; rw [show (1 : Int32) + Int32.ofInt 16 = 17 from by decide]), show tz_b ((17 : Int32), iShr (tz_1 x) 16) = ((17 : Int32), iShr (tz_1 x) 16) from if_pos c10, show tz_c ((17 : Int32), iShr (tz_1 x) 16) = ((17 : Int32), iShr (tz_1 x) 16) from if_pos c11, show tz_d ((17 : Int32), iShr (tz_1 x) 16) = ((19 : Int32), iShr (iShr (tz_1 x) 16) 2) from (if_neg c12).trans (by show ((17 : Int32) + Int32.ofInt 2, iShr (iShr (tz_1 x) 16) 2) = _; rw [show (17 : Int32) + Int32.ofInt 2 = 19 from by decide])] at e; exact congrArg (fun z => some (Value.int z)) e) (trivial) dJ6_numberOfTrailingZeros_0f7a4_79
        · refine g_iinc (lv' := [(0, .int (iShr (tz_1 x) (16 : Int32))), (1, .int (21 : Int32))]) B dJ6_numberOfTrailingZeros_0f7a4_55 1 rfl (by decide) (by decide) [1, 0] rfl ?_
          refine g_iload_n B dJ6_numberOfTrailingZeros_0f7a4_58 0 rfl ?_
          refine g_iconst (v := (4 : Int32)) B dJ6_numberOfTrailingZeros_0f7a4_59 (by decide) ?_
          refine g_iushr (v := (iShr (iShr (tz_1 x) (16 : Int32)) (4 : Int32))) B dJ6_numberOfTrailingZeros_0f7a4_60 rfl ?_
          refine g_istore_n (lv' := [(0, .int (iShr (iShr (tz_1 x) (16 : Int32)) (4 : Int32))), (1, .int (21 : Int32))]) B dJ6_numberOfTrailingZeros_0f7a4_61 rfl (by decide) [0, 1] rfl ?_
          refine g_iload_n B dJ6_numberOfTrailingZeros_0f7a4_62 0 rfl ?_
          refine g_iconst (v := (4 : Int32)) B dJ6_numberOfTrailingZeros_0f7a4_63 (by decide) ?_
          refine g_icmp_le (tgt := 74) B dJ6_numberOfTrailingZeros_0f7a4_64 (by decide) (fun c13 => ?_) (fun c13 => ?_)
          · refine g_iload_n B dJ6_numberOfTrailingZeros_0f7a4_74 1 rfl ?_
            refine g_iload_n B dJ6_numberOfTrailingZeros_0f7a4_75 0 rfl ?_
            refine g_iconst (v := (1 : Int32)) B dJ6_numberOfTrailingZeros_0f7a4_76 (by decide) ?_
            refine g_iushr (v := (iShr (iShr (iShr (tz_1 x) (16 : Int32)) (4 : Int32)) (1 : Int32))) B dJ6_numberOfTrailingZeros_0f7a4_77 rfl ?_
            refine g_iadd (v := ((21 : Int32) + (iShr (iShr (iShr (tz_1 x) (16 : Int32)) (4 : Int32)) (1 : Int32)))) B dJ6_numberOfTrailingZeros_0f7a4_78 (rfl) ?_
            exact g_iret_p B hr rfl hlocks () (by have e : ks_tzI x = (tz_d (tz_c (tz_b (tz_a (tz_1 x))))).1 + iShr (tz_d (tz_c (tz_b (tz_a (tz_1 x))))).2 1 := if_pos c1; rw [show tz_a (tz_1 x) = ((17 : Int32), iShr (tz_1 x) 16) from (if_neg c2).trans (by show ((1 : Int32) + Int32.ofInt 16, iShr (tz_1 x) 16) = _; rw [show (1 : Int32) + Int32.ofInt 16 = 17 from by decide]), show tz_b ((17 : Int32), iShr (tz_1 x) 16) = ((17 : Int32), iShr (tz_1 x) 16) from if_pos c10, show tz_c ((17 : Int32), iShr (tz_1 x) 16) = ((21 : Int32), iShr (iShr (tz_1 x) 16) 4) from (if_neg c11).trans (by show ((17 : Int32) + Int32.ofInt 4, iShr (iShr (tz_1 x) 16) 4) = _; rw [show (17 : Int32) + Int32.ofInt 4 = 21 from by decide]), show tz_d ((21 : Int32), iShr (iShr (tz_1 x) 16) 4) = ((21 : Int32), iShr (iShr (tz_1 x) 16) 4) from if_pos c13] at e; exact congrArg (fun z => some (Value.int z)) e) (trivial) dJ6_numberOfTrailingZeros_0f7a4_79
          · refine g_iinc (lv' := [(0, .int (iShr (iShr (tz_1 x) (16 : Int32)) (4 : Int32))), (1, .int (23 : Int32))]) B dJ6_numberOfTrailingZeros_0f7a4_67 1 rfl (by decide) (by decide) [1, 0] rfl ?_
            refine g_iload_n B dJ6_numberOfTrailingZeros_0f7a4_70 0 rfl ?_
            refine g_iconst (v := (2 : Int32)) B dJ6_numberOfTrailingZeros_0f7a4_71 (by decide) ?_
            refine g_iushr (v := (iShr (iShr (iShr (tz_1 x) (16 : Int32)) (4 : Int32)) (2 : Int32))) B dJ6_numberOfTrailingZeros_0f7a4_72 rfl ?_
            refine g_istore_n (lv' := [(0, .int (iShr (iShr (iShr (tz_1 x) (16 : Int32)) (4 : Int32)) (2 : Int32))), (1, .int (23 : Int32))]) B dJ6_numberOfTrailingZeros_0f7a4_73 rfl (by decide) [0, 1] rfl ?_
            refine g_iload_n B dJ6_numberOfTrailingZeros_0f7a4_74 1 rfl ?_
            refine g_iload_n B dJ6_numberOfTrailingZeros_0f7a4_75 0 rfl ?_
            refine g_iconst (v := (1 : Int32)) B dJ6_numberOfTrailingZeros_0f7a4_76 (by decide) ?_
            refine g_iushr (v := (iShr (iShr (iShr (iShr (tz_1 x) (16 : Int32)) (4 : Int32)) (2 : Int32)) (1 : Int32))) B dJ6_numberOfTrailingZeros_0f7a4_77 rfl ?_
            refine g_iadd (v := ((23 : Int32) + (iShr (iShr (iShr (iShr (tz_1 x) (16 : Int32)) (4 : Int32)) (2 : Int32)) (1 : Int32)))) B dJ6_numberOfTrailingZeros_0f7a4_78 (rfl) ?_
            exact g_iret_p B hr rfl hlocks () (by have e : ks_tzI x = (tz_d (tz_c (tz_b (tz_a (tz_1 x))))).1 + iShr (tz_d (tz_c (tz_b (tz_a (tz_1 x))))).2 1 := if_pos c1; rw [show tz_a (tz_1 x) = ((17 : Int32), iShr (tz_1 x) 16) from (if_neg c2).trans (by show ((1 : Int32) + Int32.ofInt 16, iShr (tz_1 x) 16) = _; rw [show (1 : Int32) + Int32.ofInt 16 = 17 from by decide]), show tz_b ((17 : Int32), iShr (tz_1 x) 16) = ((17 : Int32), iShr (tz_1 x) 16) from if_pos c10, show tz_c ((17 : Int32), iShr (tz_1 x) 16) = ((21 : Int32), iShr (iShr (tz_1 x) 16) 4) from (if_neg c11).trans (by show ((17 : Int32) + Int32.ofInt 4, iShr (iShr (tz_1 x) 16) 4) = _; rw [show (17 : Int32) + Int32.ofInt 4 = 21 from by decide]), show tz_d ((21 : Int32), iShr (iShr (tz_1 x) 16) 4) = ((23 : Int32), iShr (iShr (iShr (tz_1 x) 16) 4) 2) from (if_neg c13).trans (by show ((21 : Int32) + Int32.ofInt 2, iShr (iShr (iShr (tz_1 x) 16) 4) 2) = _; rw [show (21 : Int32) + Int32.ofInt 2 = 23 from by decide])] at e; exact congrArg (fun z => some (Value.int z)) e) (trivial) dJ6_numberOfTrailingZeros_0f7a4_79
      · refine g_iinc (lv' := [(0, .int (iShr (tz_1 x) (16 : Int32))), (1, .int (25 : Int32))]) B dJ6_numberOfTrailingZeros_0f7a4_41 1 rfl (by decide) (by decide) [1, 0] rfl ?_
        refine g_iload_n B dJ6_numberOfTrailingZeros_0f7a4_44 0 rfl ?_
        refine g_bipush (v := (8 : Int32)) B dJ6_numberOfTrailingZeros_0f7a4_45 (by decide) ?_
        refine g_iushr (v := (iShr (iShr (tz_1 x) (16 : Int32)) (8 : Int32))) B dJ6_numberOfTrailingZeros_0f7a4_47 rfl ?_
        refine g_istore_n (lv' := [(0, .int (iShr (iShr (tz_1 x) (16 : Int32)) (8 : Int32))), (1, .int (25 : Int32))]) B dJ6_numberOfTrailingZeros_0f7a4_48 rfl (by decide) [0, 1] rfl ?_
        refine g_iload_n B dJ6_numberOfTrailingZeros_0f7a4_49 0 rfl ?_
        refine g_bipush (v := (16 : Int32)) B dJ6_numberOfTrailingZeros_0f7a4_50 (by decide) ?_
        refine g_icmp_le (tgt := 62) B dJ6_numberOfTrailingZeros_0f7a4_52 (by decide) (fun c14 => ?_) (fun c14 => ?_)
        · refine g_iload_n B dJ6_numberOfTrailingZeros_0f7a4_62 0 rfl ?_
          refine g_iconst (v := (4 : Int32)) B dJ6_numberOfTrailingZeros_0f7a4_63 (by decide) ?_
          refine g_icmp_le (tgt := 74) B dJ6_numberOfTrailingZeros_0f7a4_64 (by decide) (fun c15 => ?_) (fun c15 => ?_)
          · refine g_iload_n B dJ6_numberOfTrailingZeros_0f7a4_74 1 rfl ?_
            refine g_iload_n B dJ6_numberOfTrailingZeros_0f7a4_75 0 rfl ?_
            refine g_iconst (v := (1 : Int32)) B dJ6_numberOfTrailingZeros_0f7a4_76 (by decide) ?_
            refine g_iushr (v := (iShr (iShr (iShr (tz_1 x) (16 : Int32)) (8 : Int32)) (1 : Int32))) B dJ6_numberOfTrailingZeros_0f7a4_77 rfl ?_
            refine g_iadd (v := ((25 : Int32) + (iShr (iShr (iShr (tz_1 x) (16 : Int32)) (8 : Int32)) (1 : Int32)))) B dJ6_numberOfTrailingZeros_0f7a4_78 (rfl) ?_
            exact g_iret_p B hr rfl hlocks () (by have e : ks_tzI x = (tz_d (tz_c (tz_b (tz_a (tz_1 x))))).1 + iShr (tz_d (tz_c (tz_b (tz_a (tz_1 x))))).2 1 := if_pos c1; rw [show tz_a (tz_1 x) = ((17 : Int32), iShr (tz_1 x) 16) from (if_neg c2).trans (by show ((1 : Int32) + Int32.ofInt 16, iShr (tz_1 x) 16) = _; rw [show (1 : Int32) + Int32.ofInt 16 = 17 from by decide]), show tz_b ((17 : Int32), iShr (tz_1 x) 16) = ((25 : Int32), iShr (iShr (tz_1 x) 16) 8) from (if_neg c10).trans (by show ((17 : Int32) + Int32.ofInt 8, iShr (iShr (tz_1 x) 16) 8) = _; rw [show (17 : Int32) + Int32.ofInt 8 = 25 from by decide]), show tz_c ((25 : Int32), iShr (iShr (tz_1 x) 16) 8) = ((25 : Int32), iShr (iShr (tz_1 x) 16) 8) from if_pos c14, show tz_d ((25 : Int32), iShr (iShr (tz_1 x) 16) 8) = ((25 : Int32), iShr (iShr (tz_1 x) 16) 8) from if_pos c15] at e; exact congrArg (fun z => some (Value.int z)) e) (trivial) dJ6_numberOfTrailingZeros_0f7a4_79
          · refine g_iinc (lv' := [(0, .int (iShr (iShr (tz_1 x) (16 : Int32)) (8 : Int32))), (1, .int (27 : Int32))]) B dJ6_numberOfTrailingZeros_0f7a4_67 1 rfl (by decide) (by decide) [1, 0] rfl ?_
            refine g_iload_n B dJ6_numberOfTrailingZeros_0f7a4_70 0 rfl ?_
            refine g_iconst (v := (2 : Int32)) B dJ6_numberOfTrailingZeros_0f7a4_71 (by decide) ?_
            refine g_iushr (v := (iShr (iShr (iShr (tz_1 x) (16 : Int32)) (8 : Int32)) (2 : Int32))) B dJ6_numberOfTrailingZeros_0f7a4_72 rfl ?_
            refine g_istore_n (lv' := [(0, .int (iShr (iShr (iShr (tz_1 x) (16 : Int32)) (8 : Int32)) (2 : Int32))), (1, .int (27 : Int32))]) B dJ6_numberOfTrailingZeros_0f7a4_73 rfl (by decide) [0, 1] rfl ?_
            refine g_iload_n B dJ6_numberOfTrailingZeros_0f7a4_74 1 rfl ?_
            refine g_iload_n B dJ6_numberOfTrailingZeros_0f7a4_75 0 rfl ?_
            refine g_iconst (v := (1 : Int32)) B dJ6_numberOfTrailingZeros_0f7a4_76 (by decide) ?_
            refine g_iushr (v := (iShr (iShr (iShr (iShr (tz_1 x) (16 : Int32)) (8 : Int32)) (2 : Int32)) (1 : Int32))) B dJ6_numberOfTrailingZeros_0f7a4_77 rfl ?_
            refine g_iadd (v := ((27 : Int32) + (iShr (iShr (iShr (iShr (tz_1 x) (16 : Int32)) (8 : Int32)) (2 : Int32)) (1 : Int32)))) B dJ6_numberOfTrailingZeros_0f7a4_78 (rfl) ?_
            exact g_iret_p B hr rfl hlocks () (by have e : ks_tzI x = (tz_d (tz_c (tz_b (tz_a (tz_1 x))))).1 + iShr (tz_d (tz_c (tz_b (tz_a (tz_1 x))))).2 1 := if_pos c1; rw [show tz_a (tz_1 x) = ((17 : Int32), iShr (tz_1 x) 16) from (if_neg c2).trans (by show ((1 : Int32) + Int32.ofInt 16, iShr (tz_1 x) 16) = _; rw [show (1 : Int32) + Int32.ofInt 16 = 17 from by decide]), show tz_b ((17 : Int32), iShr (tz_1 x) 16) = ((25 : Int32), iShr (iShr (tz_1 x) 16) 8) from (if_neg c10).trans (by show ((17 : Int32) + Int32.ofInt 8, iShr (iShr (tz_1 x) 16) 8) = _; rw [show (17 : Int32) + Int32.ofInt 8 = 25 from by decide]), show tz_c ((25 : Int32), iShr (iShr (tz_1 x) 16) 8) = ((25 : Int32), iShr (iShr (tz_1 x) 16) 8) from if_pos c14, show tz_d ((25 : Int32), iShr (iShr (tz_1 x) 16) 8) = ((27 : Int32), iShr (iShr (iShr (tz_1 x) 16) 8) 2) from (if_neg c15).trans (by show ((25 : Int32) + Int32.ofInt 2, iShr (iShr (iShr (tz_1 x) 16) 8) 2) = _; rw [show (25 : Int32) + Int32.ofInt 2 = 27 from by decide])] at e; exact congrArg (fun z => some (Value.int z)) e) (trivial) dJ6_numberOfTrailingZeros_0f7a4_79
        · refine g_iinc (lv' := [(0, .int (iShr (iShr (tz_1 x) (16 : Int32)) (8 : Int32))), (1, .int (29 : Int32))]) B dJ6_numberOfTrailingZeros_0f7a4_55 1 rfl (by decide) (by decide) [1, 0] rfl ?_
          refine g_iload_n B dJ6_numberOfTrailingZeros_0f7a4_58 0 rfl ?_
          refine g_iconst (v := (4 : Int32)) B dJ6_numberOfTrailingZeros_0f7a4_59 (by decide) ?_
          refine g_iushr (v := (iShr (iShr (iShr (tz_1 x) (16 : Int32)) (8 : Int32)) (4 : Int32))) B dJ6_numberOfTrailingZeros_0f7a4_60 rfl ?_
          refine g_istore_n (lv' := [(0, .int (iShr (iShr (iShr (tz_1 x) (16 : Int32)) (8 : Int32)) (4 : Int32))), (1, .int (29 : Int32))]) B dJ6_numberOfTrailingZeros_0f7a4_61 rfl (by decide) [0, 1] rfl ?_
          refine g_iload_n B dJ6_numberOfTrailingZeros_0f7a4_62 0 rfl ?_
          refine g_iconst (v := (4 : Int32)) B dJ6_numberOfTrailingZeros_0f7a4_63 (by decide) ?_
          refine g_icmp_le (tgt := 74) B dJ6_numberOfTrailingZeros_0f7a4_64 (by decide) (fun c16 => ?_) (fun c16 => ?_)
          · refine g_iload_n B dJ6_numberOfTrailingZeros_0f7a4_74 1 rfl ?_
            refine g_iload_n B dJ6_numberOfTrailingZeros_0f7a4_75 0 rfl ?_
            refine g_iconst (v := (1 : Int32)) B dJ6_numberOfTrailingZeros_0f7a4_76 (by decide) ?_
            refine g_iushr (v := (iShr (iShr (iShr (iShr (tz_1 x) (16 : Int32)) (8 : Int32)) (4 : Int32)) (1 : Int32))) B dJ6_numberOfTrailingZeros_0f7a4_77 rfl ?_
            refine g_iadd (v := ((29 : Int32) + (iShr (iShr (iShr (iShr (tz_1 x) (16 : Int32)) (8 : Int32)) (4 : Int32)) (1 : Int32)))) B dJ6_numberOfTrailingZeros_0f7a4_78 (rfl) ?_
            exact g_iret_p B hr rfl hlocks () (by have e : ks_tzI x = (tz_d (tz_c (tz_b (tz_a (tz_1 x))))).1 + iShr (tz_d (tz_c (tz_b (tz_a (tz_1 x))))).2 1 := if_pos c1; rw [show tz_a (tz_1 x) = ((17 : Int32), iShr (tz_1 x) 16) from (if_neg c2).trans (by show ((1 : Int32) + Int32.ofInt 16, iShr (tz_1 x) 16) = _; rw [show (1 : Int32) + Int32.ofInt 16 = 17 from by decide]), show tz_b ((17 : Int32), iShr (tz_1 x) 16) = ((25 : Int32), iShr (iShr (tz_1 x) 16) 8) from (if_neg c10).trans (by show ((17 : Int32) + Int32.ofInt 8, iShr (iShr (tz_1 x) 16) 8) = _; rw [show (17 : Int32) + Int32.ofInt 8 = 25 from by decide]), show tz_c ((25 : Int32), iShr (iShr (tz_1 x) 16) 8) = ((29 : Int32), iShr (iShr (iShr (tz_1 x) 16) 8) 4) from (if_neg c14).trans (by show ((25 : Int32) + Int32.ofInt 4, iShr (iShr (iShr (tz_1 x) 16) 8) 4) = _; rw [show (25 : Int32) + Int32.ofInt 4 = 29 from by decide]), show tz_d ((29 : Int32), iShr (iShr (iShr (tz_1 x) 16) 8) 4) = ((29 : Int32), iShr (iShr (iShr (tz_1 x) 16) 8) 4) from if_pos c16] at e; exact congrArg (fun z => some (Value.int z)) e) (trivial) dJ6_numberOfTrailingZeros_0f7a4_79
          · refine g_iinc (lv' := [(0, .int (iShr (iShr (iShr (tz_1 x) (16 : Int32)) (8 : Int32)) (4 : Int32))), (1, .int (31 : Int32))]) B dJ6_numberOfTrailingZeros_0f7a4_67 1 rfl (by decide) (by decide) [1, 0] rfl ?_
            refine g_iload_n B dJ6_numberOfTrailingZeros_0f7a4_70 0 rfl ?_
            refine g_iconst (v := (2 : Int32)) B dJ6_numberOfTrailingZeros_0f7a4_71 (by decide) ?_
            refine g_iushr (v := (iShr (iShr (iShr (iShr (tz_1 x) (16 : Int32)) (8 : Int32)) (4 : Int32)) (2 : Int32))) B dJ6_numberOfTrailingZeros_0f7a4_72 rfl ?_
            refine g_istore_n (lv' := [(0, .int (iShr (iShr (iShr (iShr (tz_1 x) (16 : Int32)) (8 : Int32)) (4 : Int32)) (2 : Int32))), (1, .int (31 : Int32))]) B dJ6_numberOfTrailingZeros_0f7a4_73 rfl (by decide) [0, 1] rfl ?_
            refine g_iload_n B dJ6_numberOfTrailingZeros_0f7a4_74 1 rfl ?_
            refine g_iload_n B dJ6_numberOfTrailingZeros_0f7a4_75 0 rfl ?_
            refine g_iconst (v := (1 : Int32)) B dJ6_numberOfTrailingZeros_0f7a4_76 (by decide) ?_
            refine g_iushr (v := (iShr (iShr (iShr (iShr (iShr (tz_1 x) (16 : Int32)) (8 : Int32)) (4 : Int32)) (2 : Int32)) (1 : Int32))) B dJ6_numberOfTrailingZeros_0f7a4_77 rfl ?_
            refine g_iadd (v := ((31 : Int32) + (iShr (iShr (iShr (iShr (iShr (tz_1 x) (16 : Int32)) (8 : Int32)) (4 : Int32)) (2 : Int32)) (1 : Int32)))) B dJ6_numberOfTrailingZeros_0f7a4_78 (rfl) ?_
            exact g_iret_p B hr rfl hlocks () (by have e : ks_tzI x = (tz_d (tz_c (tz_b (tz_a (tz_1 x))))).1 + iShr (tz_d (tz_c (tz_b (tz_a (tz_1 x))))).2 1 := if_pos c1; rw [show tz_a (tz_1 x) = ((17 : Int32), iShr (tz_1 x) 16) from (if_neg c2).trans (by show ((1 : Int32) + Int32.ofInt 16, iShr (tz_1 x) 16) = _; rw [show (1 : Int32) + Int32.ofInt 16 = 17 from by decide]), show tz_b ((17 : Int32), iShr (tz_1 x) 16) = ((25 : Int32), iShr (iShr (tz_1 x) 16) 8) from (if_neg c10).trans (by show ((17 : Int32) + Int32.ofInt 8, iShr (iShr (tz_1 x) 16) 8) = _; rw [show (17 : Int32) + Int32.ofInt 8 = 25 from by decide]), show tz_c ((25 : Int32), iShr (iShr (tz_1 x) 16) 8) = ((29 : Int32), iShr (iShr (iShr (tz_1 x) 16) 8) 4) from (if_neg c14).trans (by show ((25 : Int32) + Int32.ofInt 4, iShr (iShr (iShr (tz_1 x) 16) 8) 4) = _; rw [show (25 : Int32) + Int32.ofInt 4 = 29 from by decide]), show tz_d ((29 : Int32), iShr (iShr (iShr (tz_1 x) 16) 8) 4) = ((31 : Int32), iShr (iShr (iShr (iShr (tz_1 x) 16) 8) 4) 2) from (if_neg c16).trans (by show ((29 : Int32) + Int32.ofInt 2, iShr (iShr (iShr (iShr (tz_1 x) 16) 8) 4) 2) = _; rw [show (29 : Int32) + Int32.ofInt 2 = 31 from by decide])] at e; exact congrArg (fun z => some (Value.int z)) e) (trivial) dJ6_numberOfTrailingZeros_0f7a4_79
  · refine g_iload_n B dJ6_numberOfTrailingZeros_0f7a4_12 0 rfl ?_
    refine g_bipush (v := (32 : Int32)) B dJ6_numberOfTrailingZeros_0f7a4_13 (by decide) ?_
    refine g_iand (v := ((tz_1 x) &&& (32 : Int32))) B dJ6_numberOfTrailingZeros_0f7a4_15 (rfl) ?_
    exact g_iret_p B hr rfl hlocks () (by rw [show ks_tzI x = tz_1 x &&& 32 from if_neg c1]) (trivial) dJ6_numberOfTrailingZeros_0f7a4_16

