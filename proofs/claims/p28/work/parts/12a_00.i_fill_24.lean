set_option maxHeartbeats 4000000 in
set_option maxRecDepth 100000 in
theorem i_fill_24 (l : Launch) {D : va_G} {cI cL cZ cQ : ClassId} (p9 : Nat)  : WM l yJ7_fill_53178 wsJ7_fill_53178 ({ frames := 0, cells := 0, slots := 0, locals := 0 } : Room) D (gTys cI cL cZ cQ) [.ref p9, .int (-1 : Int32)] [(p9, .inl (cI, 24, .inl (fun _ => (0 : Int32))))] (fun (_ : Unit) => True) (fun (_ : Unit) => none) (fun (_ : Unit) => [(p9, .inl (cI, 24, .inl (fun _ => (-1 : Int32))))]) := by
  refine WM.ofG cJ7_fill_53178 4 none (by decide +kernel) rfl (Nat.le_of_ble_eq_true rfl) ?_
  intro p e s m below meth c A hA B hr hlocks hname hK hN
  refine g_iconst (v := (0 : Int32)) B dJ7_fill_53178_0 (by decide) ?_
  refine g_istore_n (lv' := [(0, .ref p9), (1, .int (-1 : Int32)), (2, .int (0 : Int32))]) B dJ7_fill_53178_1 rfl (by decide) [1, 2, 0] rfl ?_
  refine g_aload_n B dJ7_fill_53178_2 0 rfl ?_
  refine g_alen (v := (24 : Int32)) B hK 0 0 rfl rfl rfl dJ7_fill_53178_3 ?_
  refine g_istore_n (lv' := [(0, .ref p9), (1, .int (-1 : Int32)), (2, .int (0 : Int32)), (3, .int (24 : Int32))]) B dJ7_fill_53178_4 rfl (by decide) [1, 2, 3, 0] rfl ?_
  refine g_iload_n B dJ7_fill_53178_5 2 rfl ?_
  refine g_iload_n B dJ7_fill_53178_6 3 rfl ?_
  refine g_icmp_ge (tgt := 20) B dJ7_fill_53178_7 (by decide) (fun c1 => absurd c1 (by decide)) (fun _ => ?_)
  refine g_aload_n B dJ7_fill_53178_10 0 rfl ?_
  refine g_iload_n B dJ7_fill_53178_11 2 rfl ?_
  refine g_iload_n B dJ7_fill_53178_12 1 rfl ?_
  refine g_iast B hK 0 0 rfl rfl 0 rfl (by omega) (by omega) (f2 := (upd (fun _ => (0 : Int32)) 0 (-1 : Int32))) (rfl) (w2 := [(p9, .inl (cI, 24, .inl (upd (fun _ => (0 : Int32)) 0 (-1 : Int32))))]) rfl (fun _ h => h) dJ7_fill_53178_13 ?_
  refine g_iinc (lv' := [(0, .ref p9), (1, .int (-1 : Int32)), (2, .int (1 : Int32)), (3, .int (24 : Int32))]) B dJ7_fill_53178_14 2 rfl (by decide) (by decide) [1, 2, 0, 3] rfl ?_
  refine g_goto (tgt := 5) B dJ7_fill_53178_17 (by decide) ?_
  refine g_iload_n B dJ7_fill_53178_5 2 rfl ?_
  refine g_iload_n B dJ7_fill_53178_6 3 rfl ?_
  refine g_icmp_ge (tgt := 20) B dJ7_fill_53178_7 (by decide) (fun c2 => absurd c2 (by decide)) (fun _ => ?_)
  refine g_aload_n B dJ7_fill_53178_10 0 rfl ?_
  refine g_iload_n B dJ7_fill_53178_11 2 rfl ?_
  refine g_iload_n B dJ7_fill_53178_12 1 rfl ?_
  refine g_iast B hK 0 0 rfl rfl 1 rfl (by omega) (by omega) (f2 := (upd (upd (fun _ => (0 : Int32)) 0 (-1 : Int32)) 1 (-1 : Int32))) (rfl) (w2 := [(p9, .inl (cI, 24, .inl (upd (upd (fun _ => (0 : Int32)) 0 (-1 : Int32)) 1 (-1 : Int32))))]) rfl (fun _ h => h) dJ7_fill_53178_13 ?_
  refine g_iinc (lv' := [(0, .ref p9), (1, .int (-1 : Int32)), (2, .int (2 : Int32)), (3, .int (24 : Int32))]) B dJ7_fill_53178_14 2 rfl (by decide) (by decide) [1, 2, 0, 3] rfl ?_
  refine g_goto (tgt := 5) B dJ7_fill_53178_17 (by decide) ?_
  refine g_iload_n B dJ7_fill_53178_5 2 rfl ?_
  refine g_iload_n B dJ7_fill_53178_6 3 rfl ?_
  refine g_icmp_ge (tgt := 20) B dJ7_fill_53178_7 (by decide) (fun c3 => absurd c3 (by decide)) (fun _ => ?_)
  refine g_aload_n B dJ7_fill_53178_10 0 rfl ?_
  refine g_iload_n B dJ7_fill_53178_11 2 rfl ?_
  refine g_iload_n B dJ7_fill_53178_12 1 rfl ?_
  refine g_iast B hK 0 0 rfl rfl 2 rfl (by omega) (by omega) (f2 := (upd (upd (upd (fun _ => (0 : Int32)) 0 (-1 : Int32)) 1 (-1 : Int32)) 2 (-1 : Int32))) (rfl) (w2 := [(p9, .inl (cI, 24, .inl (upd (upd (upd (fun _ => (0 : Int32)) 0 (-1 : Int32)) 1 (-1 : Int32)) 2 (-1 : Int32))))]) rfl (fun _ h => h) dJ7_fill_53178_13 ?_
  refine g_iinc (lv' := [(0, .ref p9), (1, .int (-1 : Int32)), (2, .int (3 : Int32)), (3, .int (24 : Int32))]) B dJ7_fill_53178_14 2 rfl (by decide) (by decide) [1, 2, 0, 3] rfl ?_
  refine g_goto (tgt := 5) B dJ7_fill_53178_17 (by decide) ?_
  refine g_iload_n B dJ7_fill_53178_5 2 rfl ?_
  refine g_iload_n B dJ7_fill_53178_6 3 rfl ?_
  refine g_icmp_ge (tgt := 20) B dJ7_fill_53178_7 (by decide) (fun c4 => absurd c4 (by decide)) (fun _ => ?_)
  refine g_aload_n B dJ7_fill_53178_10 0 rfl ?_
  refine g_iload_n B dJ7_fill_53178_11 2 rfl ?_
  refine g_iload_n B dJ7_fill_53178_12 1 rfl ?_
  refine g_iast B hK 0 0 rfl rfl 3 rfl (by omega) (by omega) (f2 := (upd (upd (upd (upd (fun _ => (0 : Int32)) 0 (-1 : Int32)) 1 (-1 : Int32)) 2 (-1 : Int32)) 3 (-1 : Int32))) (rfl) (w2 := [(p9, .inl (cI, 24, .inl (upd (upd (upd (upd (fun _ => (0 : Int32)) 0 (-1 : Int32)) 1 (-1 : Int32)) 2 (-1 : Int32)) 3 (-1 : Int32))))]) rfl (fun _ h => h) dJ7_fill_53178_13 ?_
  refine g_iinc (lv' := [(0, .ref p9), (1, .int (-1 : Int32)), (2, .int (4 : Int32)), (3, .int (24 : Int32))]) B dJ7_fill_53178_14 2 rfl (by decide) (by decide) [1, 2, 0, 3] rfl ?_
  refine g_goto (tgt := 5) B dJ7_fill_53178_17 (by decide) ?_
  refine g_iload_n B dJ7_fill_53178_5 2 rfl ?_
  refine g_iload_n B dJ7_fill_53178_6 3 rfl ?_
  refine g_icmp_ge (tgt := 20) B dJ7_fill_53178_7 (by decide) (fun c5 => absurd c5 (by decide)) (fun _ => ?_)
  refine g_aload_n B dJ7_fill_53178_10 0 rfl ?_
  refine g_iload_n B dJ7_fill_53178_11 2 rfl ?_
  refine g_iload_n B dJ7_fill_53178_12 1 rfl ?_
  refine g_iast B hK 0 0 rfl rfl 4 rfl (by omega) (by omega) (f2 := (upd (upd (upd (upd (upd (fun _ => (0 : Int32)) 0 (-1 : Int32)) 1 (-1 : Int32)) 2 (-1 : Int32)) 3 (-1 : Int32)) 4 (-1 : Int32))) (rfl) (w2 := [(p9, .inl (cI, 24, .inl (upd (upd (upd (upd (upd (fun _ => (0 : Int32)) 0 (-1 : Int32)) 1 (-1 : Int32)) 2 (-1 : Int32)) 3 (-1 : Int32)) 4 (-1 : Int32))))]) rfl (fun _ h => h) dJ7_fill_53178_13 ?_
  refine g_iinc (lv' := [(0, .ref p9), (1, .int (-1 : Int32)), (2, .int (5 : Int32)), (3, .int (24 : Int32))]) B dJ7_fill_53178_14 2 rfl (by decide) (by decide) [1, 2, 0, 3] rfl ?_
  refine g_goto (tgt := 5) B dJ7_fill_53178_17 (by decide) ?_
  refine g_iload_n B dJ7_fill_53178_5 2 rfl ?_
  refine g_iload_n B dJ7_fill_53178_6 3 rfl ?_
  refine g_icmp_ge (tgt := 20) B dJ7_fill_53178_7 (by decide) (fun c6 => absurd c6 (by decide)) (fun _ => ?_)
  refine g_aload_n B dJ7_fill_53178_10 0 rfl ?_
  refine g_iload_n B dJ7_fill_53178_11 2 rfl ?_
  refine g_iload_n B dJ7_fill_53178_12 1 rfl ?_
  refine g_iast B hK 0 0 rfl rfl 5 rfl (by omega) (by omega) (f2 := (upd (upd (upd (upd (upd (upd (fun _ => (0 : Int32)) 0 (-1 : Int32)) 1 (-1 : Int32)) 2 (-1 : Int32)) 3 (-1 : Int32)) 4 (-1 : Int32)) 5 (-1 : Int32))) (rfl) (w2 := [(p9, .inl (cI, 24, .inl (upd (upd (upd (upd (upd (upd (fun _ => (0 : Int32)) 0 (-1 : Int32)) 1 (-1 : Int32)) 2 (-1 : Int32)) 3 (-1 : Int32)) 4 (-1 : Int32)) 5 (-1 : Int32))))]) rfl (fun _ h => h) dJ7_fill_53178_13 ?_
  refine g_iinc (lv' := [(0, .ref p9), (1, .int (-1 : Int32)), (2, .int (6 : Int32)), (3, .int (24 : Int32))]) B dJ7_fill_53178_14 2 rfl (by decide) (by decide) [1, 2, 0, 3] rfl ?_
  refine g_goto (tgt := 5) B dJ7_fill_53178_17 (by decide) ?_
  refine g_iload_n B dJ7_fill_53178_5 2 rfl ?_
  refine g_iload_n B dJ7_fill_53178_6 3 rfl ?_
  refine g_icmp_ge (tgt := 20) B dJ7_fill_53178_7 (by decide) (fun c7 => absurd c7 (by decide)) (fun _ => ?_)
  refine g_aload_n B dJ7_fill_53178_10 0 rfl ?_
  refine g_iload_n B dJ7_fill_53178_11 2 rfl ?_
  refine g_iload_n B dJ7_fill_53178_12 1 rfl ?_
  refine g_iast B hK 0 0 rfl rfl 6 rfl (by omega) (by omega) (f2 := (upd (upd (upd (upd (upd (upd (upd (fun _ => (0 : Int32)) 0 (-1 : Int32)) 1 (-1 : Int32)) 2 (-1 : Int32)) 3 (-1 : Int32)) 4 (-1 : Int32)) 5 (-1 : Int32)) 6 (-1 : Int32))) (rfl) (w2 := [(p9, .inl (cI, 24, .inl (upd (upd (upd (upd (upd (upd (upd (fun _ => (0 : Int32)) 0 (-1 : Int32)) 1 (-1 : Int32)) 2 (-1 : Int32)) 3 (-1 : Int32)) 4 (-1 : Int32)) 5 (-1 : Int32)) 6 (-1 : Int32))))]) rfl (fun _ h => h) dJ7_fill_53178_13 ?_
  refine g_iinc (lv' := [(0, .ref p9), (1, .int (-1 : Int32)), (2, .int (7 : Int32)), (3, .int (24 : Int32))]) B dJ7_fill_53178_14 2 rfl (by decide) (by decide) [1, 2, 0, 3] rfl ?_
  refine g_goto (tgt := 5) B dJ7_fill_53178_17 (by decide) ?_
  refine g_iload_n B dJ7_fill_53178_5 2 rfl ?_
  refine g_iload_n B dJ7_fill_53178_6 3 rfl ?_
  refine g_icmp_ge (tgt := 20) B dJ7_fill_53178_7 (by decide) (fun c8 => absurd c8 (by decide)) (fun _ => ?_)
  refine g_aload_n B dJ7_fill_53178_10 0 rfl ?_
  refine g_iload_n B dJ7_fill_53178_11 2 rfl ?_
  refine g_iload_n B dJ7_fill_53178_12 1 rfl ?_
  refine g_iast B hK 0 0 rfl rfl 7 rfl (by omega) (by omega) (f2 := (upd (upd (upd (upd (upd (upd (upd (upd (fun _ => (0 : Int32)) 0 (-1 : Int32)) 1 (-1 : Int32)) 2 (-1 : Int32)) 3 (-1 : Int32)) 4 (-1 : Int32)) 5 (-1 : Int32)) 6 (-1 : Int32)) 7 (-1 : Int32))) (rfl) (w2 := [(p9, .inl (cI, 24, .inl (upd (upd (upd (upd (upd (upd (upd (upd (fun _ => (0 : Int32)) 0 (-1 : Int32)) 1 (-1 : Int32)) 2 (-1 : Int32)) 3 (-1 : Int32)) 4 (-1 : Int32)) 5 (-1 : Int32)) 6 (-1 : Int32)) 7 (-1 : Int32))))]) rfl (fun _ h => h) dJ7_fill_53178_13 ?_
  refine g_iinc (lv' := [(0, .ref p9), (1, .int (-1 : Int32)), (2, .int (8 : Int32)), (3, .int (24 : Int32))]) B dJ7_fill_53178_14 2 rfl (by decide) (by decide) [1, 2, 0, 3] rfl ?_
  refine g_goto (tgt := 5) B dJ7_fill_53178_17 (by decide) ?_
  refine g_iload_n B dJ7_fill_53178_5 2 rfl ?_
  refine g_iload_n B dJ7_fill_53178_6 3 rfl ?_
  refine g_icmp_ge (tgt := 20) B dJ7_fill_53178_7 (by decide) (fun c9 => absurd c9 (by decide)) (fun _ => ?_)
  refine g_aload_n B dJ7_fill_53178_10 0 rfl ?_
  refine g_iload_n B dJ7_fill_53178_11 2 rfl ?_
  refine g_iload_n B dJ7_fill_53178_12 1 rfl ?_
  refine g_iast B hK 0 0 rfl rfl 8 rfl (by omega) (by omega) (f2 := (upd (upd (upd (upd (upd (upd (upd (upd (upd (fun _ => (0 : Int32)) 0 (-1 : Int32)) 1 (-1 : Int32)) 2 (-1 : Int32)) 3 (-1 : Int32)) 4 (-1 : Int32)) 5 (-1 : Int32)) 6 (-1 : Int32)) 7 (-1 : Int32)) 8 (-1 : Int32))) (rfl) (w2 := [(p9, .inl (cI, 24, .inl (upd (upd (upd (upd (upd (upd (upd (upd (upd (fun _ => (0 : Int32)) 0 (-1 : Int32)) 1 (-1 : Int32)) 2 (-1 : Int32)) 3 (-1 : Int32)) 4 (-1 : Int32)) 5 (-1 : Int32)) 6 (-1 : Int32)) 7 (-1 : Int32)) 8 (-1 : Int32))))]) rfl (fun _ h => h) dJ7_fill_53178_13 ?_
  refine g_iinc (lv' := [(0, .ref p9), (1, .int (-1 : Int32)), (2, .int (9 : Int32)), (3, .int (24 : Int32))]) B dJ7_fill_53178_14 2 rfl (by decide) (by decide) [1, 2, 0, 3] rfl ?_
  refine g_goto (tgt := 5) B dJ7_fill_53178_17 (by decide) ?_
  refine g_iload_n B dJ7_fill_53178_5 2 rfl ?_
  refine g_iload_n B dJ7_fill_53178_6 3 rfl ?_
  refine g_icmp_ge (tgt := 20) B dJ7_fill_53178_7 (by decide) (fun c10 => absurd c10 (by decide)) (fun _ => ?_)
  refine g_aload_n B dJ7_fill_53178_10 0 rfl ?_
  refine g_iload_n B dJ7_fill_53178_11 2 rfl ?_
  refine g_iload_n B dJ7_fill_53178_12 1 rfl ?_
  refine g_iast B hK 0 0 rfl rfl 9 rfl (by omega) (by omega) (f2 := (upd (upd (upd (upd (upd (upd (upd (upd (upd (upd (fun _ => (0 : Int32)) 0 (-1 : Int32)) 1 (-1 : Int32)) 2 (-1 : Int32)) 3 (-1 : Int32)) 4 (-1 : Int32)) 5 (-1 : Int32)) 6 (-1 : Int32)) 7 (-1 : Int32)) 8 (-1 : Int32)) 9 (-1 : Int32))) (rfl) (w2 := [(p9, .inl (cI, 24, .inl (upd (upd (upd (upd (upd (upd (upd (upd (upd (upd (fun _ => (0 : Int32)) 0 (-1 : Int32)) 1 (-1 : Int32)) 2 (-1 : Int32)) 3 (-1 : Int32)) 4 (-1 : Int32)) 5 (-1 : Int32)) 6 (-1 : Int32)) 7 (-1 : Int32)) 8 (-1 : Int32)) 9 (-1 : Int32))))]) rfl (fun _ h => h) dJ7_fill_53178_13 ?_
  refine g_iinc (lv' := [(0, .ref p9), (1, .int (-1 : Int32)), (2, .int (10 : Int32)), (3, .int (24 : Int32))]) B dJ7_fill_53178_14 2 rfl (by decide) (by decide) [1, 2, 0, 3] rfl ?_
  refine g_goto (tgt := 5) B dJ7_fill_53178_17 (by decide) ?_
  refine g_iload_n B dJ7_fill_53178_5 2 rfl ?_
  refine g_iload_n B dJ7_fill_53178_6 3 rfl ?_
  refine g_icmp_ge (tgt := 20) B dJ7_fill_53178_7 (by decide) (fun c11 => absurd c11 (by decide)) (fun _ => ?_)
  refine g_aload_n B dJ7_fill_53178_10 0 rfl ?_
  refine g_iload_n B dJ7_fill_53178_11 2 rfl ?_
  refine g_iload_n B dJ7_fill_53178_12 1 rfl ?_
  refine g_iast B hK 0 0 rfl rfl 10 rfl (by omega) (by omega) (f2 := (upd (upd (upd (upd (upd (upd (upd (upd (upd (upd (upd (fun _ => (0 : Int32)) 0 (-1 : Int32)) 1 (-1 : Int32)) 2 (-1 : Int32)) 3 (-1 : Int32)) 4 (-1 : Int32)) 5 (-1 : Int32)) 6 (-1 : Int32)) 7 (-1 : Int32)) 8 (-1 : Int32)) 9 (-1 : Int32)) 10 (-1 : Int32))) (rfl) (w2 := [(p9, .inl (cI, 24, .inl (upd (upd (upd (upd (upd (upd (upd (upd (upd (upd (upd (fun _ => (0 : Int32)) 0 (-1 : Int32)) 1 (-1 : Int32)) 2 (-1 : Int32)) 3 (-1 : Int32)) 4 (-1 : Int32)) 5 (-1 : Int32)) 6 (-1 : Int32)) 7 (-1 : Int32)) 8 (-1 : Int32)) 9 (-1 : Int32)) 10 (-1 : Int32))))]) rfl (fun _ h => h) dJ7_fill_53178_13 ?_
  refine g_iinc (lv' := [(0, .ref p9), (1, .int (-1 : Int32)), (2, .int (11 : Int32)), (3, .int (24 : Int32))]) B dJ7_fill_53178_14 2 rfl (by decide) (by decide) [1, 2, 0, 3] rfl ?_
  refine g_goto (tgt := 5) B dJ7_fill_53178_17 (by decide) ?_
  refine g_iload_n B dJ7_fill_53178_5 2 rfl ?_
  refine g_iload_n B dJ7_fill_53178_6 3 rfl ?_
  refine g_icmp_ge (tgt := 20) B dJ7_fill_53178_7 (by decide) (fun c12 => absurd c12 (by decide)) (fun _ => ?_)
  refine g_aload_n B dJ7_fill_53178_10 0 rfl ?_
  refine g_iload_n B dJ7_fill_53178_11 2 rfl ?_
  refine g_iload_n B dJ7_fill_53178_12 1 rfl ?_
  refine g_iast B hK 0 0 rfl rfl 11 rfl (by omega) (by omega) (f2 := (upd (upd (upd (upd (upd (upd (upd (upd (upd (upd (upd (upd (fun _ => (0 : Int32)) 0 (-1 : Int32)) 1 (-1 : Int32)) 2 (-1 : Int32)) 3 (-1 : Int32)) 4 (-1 : Int32)) 5 (-1 : Int32)) 6 (-1 : Int32)) 7 (-1 : Int32)) 8 (-1 : Int32)) 9 (-1 : Int32)) 10 (-1 : Int32)) 11 (-1 : Int32))) (rfl) (w2 := [(p9, .inl (cI, 24, .inl (upd (upd (upd (upd (upd (upd (upd (upd (upd (upd (upd (upd (fun _ => (0 : Int32)) 0 (-1 : Int32)) 1 (-1 : Int32)) 2 (-1 : Int32)) 3 (-1 : Int32)) 4 (-1 : Int32)) 5 (-1 : Int32)) 6 (-1 : Int32)) 7 (-1 : Int32)) 8 (-1 : Int32)) 9 (-1 : Int32)) 10 (-1 : Int32)) 11 (-1 : Int32))))]) rfl (fun _ h => h) dJ7_fill_53178_13 ?_
  refine g_iinc (lv' := [(0, .ref p9), (1, .int (-1 : Int32)), (2, .int (12 : Int32)), (3, .int (24 : Int32))]) B dJ7_fill_53178_14 2 rfl (by decide) (by decide) [1, 2, 0, 3] rfl ?_
  refine g_goto (tgt := 5) B dJ7_fill_53178_17 (by decide) ?_
  refine g_iload_n B dJ7_fill_53178_5 2 rfl ?_
  refine g_iload_n B dJ7_fill_53178_6 3 rfl ?_
  refine g_icmp_ge (tgt := 20) B dJ7_fill_53178_7 (by decide) (fun c13 => absurd c13 (by decide)) (fun _ => ?_)
  refine g_aload_n B dJ7_fill_53178_10 0 rfl ?_
  refine g_iload_n B dJ7_fill_53178_11 2 rfl ?_
  refine g_iload_n B dJ7_fill_53178_12 1 rfl ?_
  refine g_iast B hK 0 0 rfl rfl 12 rfl (by omega) (by omega) (f2 := (upd (upd (upd (upd (upd (upd (upd (upd (upd (upd (upd (upd (upd (fun _ => (0 : Int32)) 0 (-1 : Int32)) 1 (-1 : Int32)) 2 (-1 : Int32)) 3 (-1 : Int32)) 4 (-1 : Int32)) 5 (-1 : Int32)) 6 (-1 : Int32)) 7 (-1 : Int32)) 8 (-1 : Int32)) 9 (-1 : Int32)) 10 (-1 : Int32)) 11 (-1 : Int32)) 12 (-1 : Int32))) (rfl) (w2 := [(p9, .inl (cI, 24, .inl (upd (upd (upd (upd (upd (upd (upd (upd (upd (upd (upd (upd (upd (fun _ => (0 : Int32)) 0 (-1 : Int32)) 1 (-1 : Int32)) 2 (-1 : Int32)) 3 (-1 : Int32)) 4 (-1 : Int32)) 5 (-1 : Int32)) 6 (-1 : Int32)) 7 (-1 : Int32)) 8 (-1 : Int32)) 9 (-1 : Int32)) 10 (-1 : Int32)) 11 (-1 : Int32)) 12 (-1 : Int32))))]) rfl (fun _ h => h) dJ7_fill_53178_13 ?_
  refine g_iinc (lv' := [(0, .ref p9), (1, .int (-1 : Int32)), (2, .int (13 : Int32)), (3, .int (24 : Int32))]) B dJ7_fill_53178_14 2 rfl (by decide) (by decide) [1, 2, 0, 3] rfl ?_
  refine g_goto (tgt := 5) B dJ7_fill_53178_17 (by decide) ?_
  refine g_iload_n B dJ7_fill_53178_5 2 rfl ?_
  refine g_iload_n B dJ7_fill_53178_6 3 rfl ?_
  refine g_icmp_ge (tgt := 20) B dJ7_fill_53178_7 (by decide) (fun c14 => absurd c14 (by decide)) (fun _ => ?_)
  refine g_aload_n B dJ7_fill_53178_10 0 rfl ?_
  refine g_iload_n B dJ7_fill_53178_11 2 rfl ?_
  refine g_iload_n B dJ7_fill_53178_12 1 rfl ?_
  refine g_iast B hK 0 0 rfl rfl 13 rfl (by omega) (by omega) (f2 := (upd (upd (upd (upd (upd (upd (upd (upd (upd (upd (upd (upd (upd (upd (fun _ => (0 : Int32)) 0 (-1 : Int32)) 1 (-1 : Int32)) 2 (-1 : Int32)) 3 (-1 : Int32)) 4 (-1 : Int32)) 5 (-1 : Int32)) 6 (-1 : Int32)) 7 (-1 : Int32)) 8 (-1 : Int32)) 9 (-1 : Int32)) 10 (-1 : Int32)) 11 (-1 : Int32)) 12 (-1 : Int32)) 13 (-1 : Int32))) (rfl) (w2 := [(p9, .inl (cI, 24, .inl (upd (upd (upd (upd (upd (upd (upd (upd (upd (upd (upd (upd (upd (upd (fun _ => (0 : Int32)) 0 (-1 : Int32)) 1 (-1 : Int32)) 2 (-1 : Int32)) 3 (-1 : Int32)) 4 (-1 : Int32)) 5 (-1 : Int32)) 6 (-1 : Int32)) 7 (-1 : Int32)) 8 (-1 : Int32)) 9 (-1 : Int32)) 10 (-1 : Int32)) 11 (-1 : Int32)) 12 (-1 : Int32)) 13 (-1 : Int32))))]) rfl (fun _ h => h) dJ7_fill_53178_13 ?_
  refine g_iinc (lv' := [(0, .ref p9), (1, .int (-1 : Int32)), (2, .int (14 : Int32)), (3, .int (24 : Int32))]) B dJ7_fill_53178_14 2 rfl (by decide) (by decide) [1, 2, 0, 3] rfl ?_
  refine g_goto (tgt := 5) B dJ7_fill_53178_17 (by decide) ?_
  refine g_iload_n B dJ7_fill_53178_5 2 rfl ?_
  refine g_iload_n B dJ7_fill_53178_6 3 rfl ?_
  refine g_icmp_ge (tgt := 20) B dJ7_fill_53178_7 (by decide) (fun c15 => absurd c15 (by decide)) (fun _ => ?_)
  refine g_aload_n B dJ7_fill_53178_10 0 rfl ?_
  refine g_iload_n B dJ7_fill_53178_11 2 rfl ?_
  refine g_iload_n B dJ7_fill_53178_12 1 rfl ?_
  refine g_iast B hK 0 0 rfl rfl 14 rfl (by omega) (by omega) (f2 := (upd (upd (upd (upd (upd (upd (upd (upd (upd (upd (upd (upd (upd (upd (upd (fun _ => (0 : Int32)) 0 (-1 : Int32)) 1 (-1 : Int32)) 2 (-1 : Int32)) 3 (-1 : Int32)) 4 (-1 : Int32)) 5 (-1 : Int32)) 6 (-1 : Int32)) 7 (-1 : Int32)) 8 (-1 : Int32)) 9 (-1 : Int32)) 10 (-1 : Int32)) 11 (-1 : Int32)) 12 (-1 : Int32)) 13 (-1 : Int32)) 14 (-1 : Int32))) (rfl) (w2 := [(p9, .inl (cI, 24, .inl (upd (upd (upd (upd (upd (upd (upd (upd (upd (upd (upd (upd (upd (upd (upd (fun _ => (0 : Int32)) 0 (-1 : Int32)) 1 (-1 : Int32)) 2 (-1 : Int32)) 3 (-1 : Int32)) 4 (-1 : Int32)) 5 (-1 : Int32)) 6 (-1 : Int32)) 7 (-1 : Int32)) 8 (-1 : Int32)) 9 (-1 : Int32)) 10 (-1 : Int32)) 11 (-1 : Int32)) 12 (-1 : Int32)) 13 (-1 : Int32)) 14 (-1 : Int32))))]) rfl (fun _ h => h) dJ7_fill_53178_13 ?_
  refine g_iinc (lv' := [(0, .ref p9), (1, .int (-1 : Int32)), (2, .int (15 : Int32)), (3, .int (24 : Int32))]) B dJ7_fill_53178_14 2 rfl (by decide) (by decide) [1, 2, 0, 3] rfl ?_
  refine g_goto (tgt := 5) B dJ7_fill_53178_17 (by decide) ?_
  refine g_iload_n B dJ7_fill_53178_5 2 rfl ?_
  refine g_iload_n B dJ7_fill_53178_6 3 rfl ?_
  refine g_icmp_ge (tgt := 20) B dJ7_fill_53178_7 (by decide) (fun c16 => absurd c16 (by decide)) (fun _ => ?_)
  refine g_aload_n B dJ7_fill_53178_10 0 rfl ?_
  refine g_iload_n B dJ7_fill_53178_11 2 rfl ?_
  refine g_iload_n B dJ7_fill_53178_12 1 rfl ?_
  refine g_iast B hK 0 0 rfl rfl 15 rfl (by omega) (by omega) (f2 := (upd (upd (upd (upd (upd (upd (upd (upd (upd (upd (upd (upd (upd (upd (upd (upd (fun _ => (0 : Int32)) 0 (-1 : Int32)) 1 (-1 : Int32)) 2 (-1 : Int32)) 3 (-1 : Int32)) 4 (-1 : Int32)) 5 (-1 : Int32)) 6 (-1 : Int32)) 7 (-1 : Int32)) 8 (-1 : Int32)) 9 (-1 : Int32)) 10 (-1 : Int32)) 11 (-1 : Int32)) 12 (-1 : Int32)) 13 (-1 : Int32)) 14 (-1 : Int32)) 15 (-1 : Int32))) (rfl) (w2 := [(p9, .inl (cI, 24, .inl (upd (upd (upd (upd (upd (upd (upd (upd (upd (upd (upd (upd (upd (upd (upd (upd (fun _ => (0 : Int32)) 0 (-1 : Int32)) 1 (-1 : Int32)) 2 (-1 : Int32)) 3 (-1 : Int32)) 4 (-1 : Int32)) 5 (-1 : Int32)) 6 (-1 : Int32)) 7 (-1 : Int32)) 8 (-1 : Int32)) 9 (-1 : Int32)) 10 (-1 : Int32)) 11 (-1 : Int32)) 12 (-1 : Int32)) 13 (-1 : Int32)) 14 (-1 : Int32)) 15 (-1 : Int32))))]) rfl (fun _ h => h) dJ7_fill_53178_13 ?_
  refine g_iinc (lv' := [(0, .ref p9), (1, .int (-1 : Int32)), (2, .int (16 : Int32)), (3, .int (24 : Int32))]) B dJ7_fill_53178_14 2 rfl (by decide) (by decide) [1, 2, 0, 3] rfl ?_
  refine g_goto (tgt := 5) B dJ7_fill_53178_17 (by decide) ?_
  refine g_iload_n B dJ7_fill_53178_5 2 rfl ?_
  refine g_iload_n B dJ7_fill_53178_6 3 rfl ?_
  refine g_icmp_ge (tgt := 20) B dJ7_fill_53178_7 (by decide) (fun c17 => absurd c17 (by decide)) (fun _ => ?_)
  refine g_aload_n B dJ7_fill_53178_10 0 rfl ?_
  refine g_iload_n B dJ7_fill_53178_11 2 rfl ?_
  refine g_iload_n B dJ7_fill_53178_12 1 rfl ?_
  refine g_iast B hK 0 0 rfl rfl 16 rfl (by omega) (by omega) (f2 := (upd (upd (upd (upd (upd (upd (upd (upd (upd (upd (upd (upd (upd (upd (upd (upd (upd (fun _ => (0 : Int32)) 0 (-1 : Int32)) 1 (-1 : Int32)) 2 (-1 : Int32)) 3 (-1 : Int32)) 4 (-1 : Int32)) 5 (-1 : Int32)) 6 (-1 : Int32)) 7 (-1 : Int32)) 8 (-1 : Int32)) 9 (-1 : Int32)) 10 (-1 : Int32)) 11 (-1 : Int32)) 12 (-1 : Int32)) 13 (-1 : Int32)) 14 (-1 : Int32)) 15 (-1 : Int32)) 16 (-1 : Int32))) (rfl) (w2 := [(p9, .inl (cI, 24, .inl (upd (upd (upd (upd (upd (upd (upd (upd (upd (upd (upd (upd (upd (upd (upd (upd (upd (fun _ => (0 : Int32)) 0 (-1 : Int32)) 1 (-1 : Int32)) 2 (-1 : Int32)) 3 (-1 : Int32)) 4 (-1 : Int32)) 5 (-1 : Int32)) 6 (-1 : Int32)) 7 (-1 : Int32)) 8 (-1 : Int32)) 9 (-1 : Int32)) 10 (-1 : Int32)) 11 (-1 : Int32)) 12 (-1 : Int32)) 13 (-1 : Int32)) 14 (-1 : Int32)) 15 (-1 : Int32)) 16 (-1 : Int32))))]) rfl (fun _ h => h) dJ7_fill_53178_13 ?_
  refine g_iinc (lv' := [(0, .ref p9), (1, .int (-1 : Int32)), (2, .int (17 : Int32)), (3, .int (24 : Int32))]) B dJ7_fill_53178_14 2 rfl (by decide) (by decide) [1, 2, 0, 3] rfl ?_
  refine g_goto (tgt := 5) B dJ7_fill_53178_17 (by decide) ?_
  refine g_iload_n B dJ7_fill_53178_5 2 rfl ?_
  refine g_iload_n B dJ7_fill_53178_6 3 rfl ?_
  refine g_icmp_ge (tgt := 20) B dJ7_fill_53178_7 (by decide) (fun c18 => absurd c18 (by decide)) (fun _ => ?_)
  refine g_aload_n B dJ7_fill_53178_10 0 rfl ?_
  refine g_iload_n B dJ7_fill_53178_11 2 rfl ?_
  refine g_iload_n B dJ7_fill_53178_12 1 rfl ?_
  refine g_iast B hK 0 0 rfl rfl 17 rfl (by omega) (by omega) (f2 := (upd (upd (upd (upd (upd (upd (upd (upd (upd (upd (upd (upd (upd (upd (upd (upd (upd (upd (fun _ => (0 : Int32)) 0 (-1 : Int32)) 1 (-1 : Int32)) 2 (-1 : Int32)) 3 (-1 : Int32)) 4 (-1 : Int32)) 5 (-1 : Int32)) 6 (-1 : Int32)) 7 (-1 : Int32)) 8 (-1 : Int32)) 9 (-1 : Int32)) 10 (-1 : Int32)) 11 (-1 : Int32)) 12 (-1 : Int32)) 13 (-1 : Int32)) 14 (-1 : Int32)) 15 (-1 : Int32)) 16 (-1 : Int32)) 17 (-1 : Int32))) (rfl) (w2 := [(p9, .inl (cI, 24, .inl (upd (upd (upd (upd (upd (upd (upd (upd (upd (upd (upd (upd (upd (upd (upd (upd (upd (upd (fun _ => (0 : Int32)) 0 (-1 : Int32)) 1 (-1 : Int32)) 2 (-1 : Int32)) 3 (-1 : Int32)) 4 (-1 : Int32)) 5 (-1 : Int32)) 6 (-1 : Int32)) 7 (-1 : Int32)) 8 (-1 : Int32)) 9 (-1 : Int32)) 10 (-1 : Int32)) 11 (-1 : Int32)) 12 (-1 : Int32)) 13 (-1 : Int32)) 14 (-1 : Int32)) 15 (-1 : Int32)) 16 (-1 : Int32)) 17 (-1 : Int32))))]) rfl (fun _ h => h) dJ7_fill_53178_13 ?_
  refine g_iinc (lv' := [(0, .ref p9), (1, .int (-1 : Int32)), (2, .int (18 : Int32)), (3, .int (24 : Int32))]) B dJ7_fill_53178_14 2 rfl (by decide) (by decide) [1, 2, 0, 3] rfl ?_
  refine g_goto (tgt := 5) B dJ7_fill_53178_17 (by decide) ?_
  refine g_iload_n B dJ7_fill_53178_5 2 rfl ?_
  refine g_iload_n B dJ7_fill_53178_6 3 rfl ?_
  refine g_icmp_ge (tgt := 20) B dJ7_fill_53178_7 (by decide) (fun c19 => absurd c19 (by decide)) (fun _ => ?_)
  refine g_aload_n B dJ7_fill_53178_10 0 rfl ?_
  refine g_iload_n B dJ7_fill_53178_11 2 rfl ?_
  refine g_iload_n B dJ7_fill_53178_12 1 rfl ?_
  refine g_iast B hK 0 0 rfl rfl 18 rfl (by omega) (by omega) (f2 := (upd (upd (upd (upd (upd (upd (upd (upd (upd (upd (upd (upd (upd (upd (upd (upd (upd (upd (upd (fun _ => (0 : Int32)) 0 (-1 : Int32)) 1 (-1 : Int32)) 2 (-1 : Int32)) 3 (-1 : Int32)) 4 (-1 : Int32)) 5 (-1 : Int32)) 6 (-1 : Int32)) 7 (-1 : Int32)) 8 (-1 : Int32)) 9 (-1 : Int32)) 10 (-1 : Int32)) 11 (-1 : Int32)) 12 (-1 : Int32)) 13 (-1 : Int32)) 14 (-1 : Int32)) 15 (-1 : Int32)) 16 (-1 : Int32)) 17 (-1 : Int32)) 18 (-1 : Int32))) (rfl) (w2 := [(p9, .inl (cI, 24, .inl (upd (upd (upd (upd (upd (upd (upd (upd (upd (upd (upd (upd (upd (upd (upd (upd (upd (upd (upd (fun _ => (0 : Int32)) 0 (-1 : Int32)) 1 (-1 : Int32)) 2 (-1 : Int32)) 3 (-1 : Int32)) 4 (-1 : Int32)) 5 (-1 : Int32)) 6 (-1 : Int32)) 7 (-1 : Int32)) 8 (-1 : Int32)) 9 (-1 : Int32)) 10 (-1 : Int32)) 11 (-1 : Int32)) 12 (-1 : Int32)) 13 (-1 : Int32)) 14 (-1 : Int32)) 15 (-1 : Int32)) 16 (-1 : Int32)) 17 (-1 : Int32)) 18 (-1 : Int32))))]) rfl (fun _ h => h) dJ7_fill_53178_13 ?_
  refine g_iinc (lv' := [(0, .ref p9), (1, .int (-1 : Int32)), (2, .int (19 : Int32)), (3, .int (24 : Int32))]) B dJ7_fill_53178_14 2 rfl (by decide) (by decide) [1, 2, 0, 3] rfl ?_
  refine g_goto (tgt := 5) B dJ7_fill_53178_17 (by decide) ?_
  refine g_iload_n B dJ7_fill_53178_5 2 rfl ?_
  refine g_iload_n B dJ7_fill_53178_6 3 rfl ?_
  refine g_icmp_ge (tgt := 20) B dJ7_fill_53178_7 (by decide) (fun c20 => absurd c20 (by decide)) (fun _ => ?_)
  refine g_aload_n B dJ7_fill_53178_10 0 rfl ?_
  refine g_iload_n B dJ7_fill_53178_11 2 rfl ?_
  refine g_iload_n B dJ7_fill_53178_12 1 rfl ?_
  refine g_iast B hK 0 0 rfl rfl 19 rfl (by omega) (by omega) (f2 := (upd (upd (upd (upd (upd (upd (upd (upd (upd (upd (upd (upd (upd (upd (upd (upd (upd (upd (upd (upd (fun _ => (0 : Int32)) 0 (-1 : Int32)) 1 (-1 : Int32)) 2 (-1 : Int32)) 3 (-1 : Int32)) 4 (-1 : Int32)) 5 (-1 : Int32)) 6 (-1 : Int32)) 7 (-1 : Int32)) 8 (-1 : Int32)) 9 (-1 : Int32)) 10 (-1 : Int32)) 11 (-1 : Int32)) 12 (-1 : Int32)) 13 (-1 : Int32)) 14 (-1 : Int32)) 15 (-1 : Int32)) 16 (-1 : Int32)) 17 (-1 : Int32)) 18 (-1 : Int32)) 19 (-1 : Int32))) (rfl) (w2 := [(p9, .inl (cI, 24, .inl (upd (upd (upd (upd (upd (upd (upd (upd (upd (upd (upd (upd (upd (upd (upd (upd (upd (upd (upd (upd (fun _ => (0 : Int32)) 0 (-1 : Int32)) 1 (-1 : Int32)) 2 (-1 : Int32)) 3 (-1 : Int32)) 4 (-1 : Int32)) 5 (-1 : Int32)) 6 (-1 : Int32)) 7 (-1 : Int32)) 8 (-1 : Int32)) 9 (-1 : Int32)) 10 (-1 : Int32)) 11 (-1 : Int32)) 12 (-1 : Int32)) 13 (-1 : Int32)) 14 (-1 : Int32)) 15 (-1 : Int32)) 16 (-1 : Int32)) 17 (-1 : Int32)) 18 (-1 : Int32)) 19 (-1 : Int32))))]) rfl (fun _ h => h) dJ7_fill_53178_13 ?_
  refine g_iinc (lv' := [(0, .ref p9), (1, .int (-1 : Int32)), (2, .int (20 : Int32)), (3, .int (24 : Int32))]) B dJ7_fill_53178_14 2 rfl (by decide) (by decide) [1, 2, 0, 3] rfl ?_
  refine g_goto (tgt := 5) B dJ7_fill_53178_17 (by decide) ?_
  refine g_iload_n B dJ7_fill_53178_5 2 rfl ?_
  refine g_iload_n B dJ7_fill_53178_6 3 rfl ?_
  refine g_icmp_ge (tgt := 20) B dJ7_fill_53178_7 (by decide) (fun c21 => absurd c21 (by decide)) (fun _ => ?_)
  refine g_aload_n B dJ7_fill_53178_10 0 rfl ?_
  refine g_iload_n B dJ7_fill_53178_11 2 rfl ?_
  refine g_iload_n B dJ7_fill_53178_12 1 rfl ?_
  refine g_iast B hK 0 0 rfl rfl 20 rfl (by omega) (by omega) (f2 := (upd (upd (upd (upd (upd (upd (upd (upd (upd (upd (upd (upd (upd (upd (upd (upd (upd (upd (upd (upd (upd (fun _ => (0 : Int32)) 0 (-1 : Int32)) 1 (-1 : Int32)) 2 (-1 : Int32)) 3 (-1 : Int32)) 4 (-1 : Int32)) 5 (-1 : Int32)) 6 (-1 : Int32)) 7 (-1 : Int32)) 8 (-1 : Int32)) 9 (-1 : Int32)) 10 (-1 : Int32)) 11 (-1 : Int32)) 12 (-1 : Int32)) 13 (-1 : Int32)) 14 (-1 : Int32)) 15 (-1 : Int32)) 16 (-1 : Int32)) 17 (-1 : Int32)) 18 (-1 : Int32)) 19 (-1 : Int32)) 20 (-1 : Int32))) (rfl) (w2 := [(p9, .inl (cI, 24, .inl (upd (upd (upd (upd (upd (upd (upd (upd (upd (upd (upd (upd (upd (upd (upd (upd (upd (upd (upd (upd (upd (fun _ => (0 : Int32)) 0 (-1 : Int32)) 1 (-1 : Int32)) 2 (-1 : Int32)) 3 (-1 : Int32)) 4 (-1 : Int32)) 5 (-1 : Int32)) 6 (-1 : Int32)) 7 (-1 : Int32)) 8 (-1 : Int32)) 9 (-1 : Int32)) 10 (-1 : Int32)) 11 (-1 : Int32)) 12 (-1 : Int32)) 13 (-1 : Int32)) 14 (-1 : Int32)) 15 (-1 : Int32)) 16 (-1 : Int32)) 17 (-1 : Int32)) 18 (-1 : Int32)) 19 (-1 : Int32)) 20 (-1 : Int32))))]) rfl (fun _ h => h) dJ7_fill_53178_13 ?_
  refine g_iinc (lv' := [(0, .ref p9), (1, .int (-1 : Int32)), (2, .int (21 : Int32)), (3, .int (24 : Int32))]) B dJ7_fill_53178_14 2 rfl (by decide) (by decide) [1, 2, 0, 3] rfl ?_
  refine g_goto (tgt := 5) B dJ7_fill_53178_17 (by decide) ?_
  refine g_iload_n B dJ7_fill_53178_5 2 rfl ?_
  refine g_iload_n B dJ7_fill_53178_6 3 rfl ?_
  refine g_icmp_ge (tgt := 20) B dJ7_fill_53178_7 (by decide) (fun c22 => absurd c22 (by decide)) (fun _ => ?_)
  refine g_aload_n B dJ7_fill_53178_10 0 rfl ?_
  refine g_iload_n B dJ7_fill_53178_11 2 rfl ?_
  refine g_iload_n B dJ7_fill_53178_12 1 rfl ?_
  refine g_iast B hK 0 0 rfl rfl 21 rfl (by omega) (by omega) (f2 := (upd (upd (upd (upd (upd (upd (upd (upd (upd (upd (upd (upd (upd (upd (upd (upd (upd (upd (upd (upd (upd (upd (fun _ => (0 : Int32)) 0 (-1 : Int32)) 1 (-1 : Int32)) 2 (-1 : Int32)) 3 (-1 : Int32)) 4 (-1 : Int32)) 5 (-1 : Int32)) 6 (-1 : Int32)) 7 (-1 : Int32)) 8 (-1 : Int32)) 9 (-1 : Int32)) 10 (-1 : Int32)) 11 (-1 : Int32)) 12 (-1 : Int32)) 13 (-1 : Int32)) 14 (-1 : Int32)) 15 (-1 : Int32)) 16 (-1 : Int32)) 17 (-1 : Int32)) 18 (-1 : Int32)) 19 (-1 : Int32)) 20 (-1 : Int32)) 21 (-1 : Int32))) (rfl) (w2 := [(p9, .inl (cI, 24, .inl (upd (upd (upd (upd (upd (upd (upd (upd (upd (upd (upd (upd (upd (upd (upd (upd (upd (upd (upd (upd (upd (upd (fun _ => (0 : Int32)) 0 (-1 : Int32)) 1 (-1 : Int32)) 2 (-1 : Int32)) 3 (-1 : Int32)) 4 (-1 : Int32)) 5 (-1 : Int32)) 6 (-1 : Int32)) 7 (-1 : Int32)) 8 (-1 : Int32)) 9 (-1 : Int32)) 10 (-1 : Int32)) 11 (-1 : Int32)) 12 (-1 : Int32)) 13 (-1 : Int32)) 14 (-1 : Int32)) 15 (-1 : Int32)) 16 (-1 : Int32)) 17 (-1 : Int32)) 18 (-1 : Int32)) 19 (-1 : Int32)) 20 (-1 : Int32)) 21 (-1 : Int32))))]) rfl (fun _ h => h) dJ7_fill_53178_13 ?_
  refine g_iinc (lv' := [(0, .ref p9), (1, .int (-1 : Int32)), (2, .int (22 : Int32)), (3, .int (24 : Int32))]) B dJ7_fill_53178_14 2 rfl (by decide) (by decide) [1, 2, 0, 3] rfl ?_
  refine g_goto (tgt := 5) B dJ7_fill_53178_17 (by decide) ?_
  refine g_iload_n B dJ7_fill_53178_5 2 rfl ?_
  refine g_iload_n B dJ7_fill_53178_6 3 rfl ?_
  refine g_icmp_ge (tgt := 20) B dJ7_fill_53178_7 (by decide) (fun c23 => absurd c23 (by decide)) (fun _ => ?_)
  refine g_aload_n B dJ7_fill_53178_10 0 rfl ?_
  refine g_iload_n B dJ7_fill_53178_11 2 rfl ?_
  refine g_iload_n B dJ7_fill_53178_12 1 rfl ?_
  refine g_iast B hK 0 0 rfl rfl 22 rfl (by omega) (by omega) (f2 := (upd (upd (upd (upd (upd (upd (upd (upd (upd (upd (upd (upd (upd (upd (upd (upd (upd (upd (upd (upd (upd (upd (upd (fun _ => (0 : Int32)) 0 (-1 : Int32)) 1 (-1 : Int32)) 2 (-1 : Int32)) 3 (-1 : Int32)) 4 (-1 : Int32)) 5 (-1 : Int32)) 6 (-1 : Int32)) 7 (-1 : Int32)) 8 (-1 : Int32)) 9 (-1 : Int32)) 10 (-1 : Int32)) 11 (-1 : Int32)) 12 (-1 : Int32)) 13 (-1 : Int32)) 14 (-1 : Int32)) 15 (-1 : Int32)) 16 (-1 : Int32)) 17 (-1 : Int32)) 18 (-1 : Int32)) 19 (-1 : Int32)) 20 (-1 : Int32)) 21 (-1 : Int32)) 22 (-1 : Int32))) (rfl) (w2 := [(p9, .inl (cI, 24, .inl (upd (upd (upd (upd (upd (upd (upd (upd (upd (upd (upd (upd (upd (upd (upd (upd (upd (upd (upd (upd (upd (upd (upd (fun _ => (0 : Int32)) 0 (-1 : Int32)) 1 (-1 : Int32)) 2 (-1 : Int32)) 3 (-1 : Int32)) 4 (-1 : Int32)) 5 (-1 : Int32)) 6 (-1 : Int32)) 7 (-1 : Int32)) 8 (-1 : Int32)) 9 (-1 : Int32)) 10 (-1 : Int32)) 11 (-1 : Int32)) 12 (-1 : Int32)) 13 (-1 : Int32)) 14 (-1 : Int32)) 15 (-1 : Int32)) 16 (-1 : Int32)) 17 (-1 : Int32)) 18 (-1 : Int32)) 19 (-1 : Int32)) 20 (-1 : Int32)) 21 (-1 : Int32)) 22 (-1 : Int32))))]) rfl (fun _ h => h) dJ7_fill_53178_13 ?_
  refine g_iinc (lv' := [(0, .ref p9), (1, .int (-1 : Int32)), (2, .int (23 : Int32)), (3, .int (24 : Int32))]) B dJ7_fill_53178_14 2 rfl (by decide) (by decide) [1, 2, 0, 3] rfl ?_
  refine g_goto (tgt := 5) B dJ7_fill_53178_17 (by decide) ?_
  refine g_iload_n B dJ7_fill_53178_5 2 rfl ?_
  refine g_iload_n B dJ7_fill_53178_6 3 rfl ?_
  refine g_icmp_ge (tgt := 20) B dJ7_fill_53178_7 (by decide) (fun c24 => absurd c24 (by decide)) (fun _ => ?_)
  refine g_aload_n B dJ7_fill_53178_10 0 rfl ?_
  refine g_iload_n B dJ7_fill_53178_11 2 rfl ?_
  refine g_iload_n B dJ7_fill_53178_12 1 rfl ?_
  refine g_iast B hK 0 0 rfl rfl 23 rfl (by omega) (by omega) (f2 := (upd (upd (upd (upd (upd (upd (upd (upd (upd (upd (upd (upd (upd (upd (upd (upd (upd (upd (upd (upd (upd (upd (upd (upd (fun _ => (0 : Int32)) 0 (-1 : Int32)) 1 (-1 : Int32)) 2 (-1 : Int32)) 3 (-1 : Int32)) 4 (-1 : Int32)) 5 (-1 : Int32)) 6 (-1 : Int32)) 7 (-1 : Int32)) 8 (-1 : Int32)) 9 (-1 : Int32)) 10 (-1 : Int32)) 11 (-1 : Int32)) 12 (-1 : Int32)) 13 (-1 : Int32)) 14 (-1 : Int32)) 15 (-1 : Int32)) 16 (-1 : Int32)) 17 (-1 : Int32)) 18 (-1 : Int32)) 19 (-1 : Int32)) 20 (-1 : Int32)) 21 (-1 : Int32)) 22 (-1 : Int32)) 23 (-1 : Int32))) (rfl) (w2 := [(p9, .inl (cI, 24, .inl (upd (upd (upd (upd (upd (upd (upd (upd (upd (upd (upd (upd (upd (upd (upd (upd (upd (upd (upd (upd (upd (upd (upd (upd (fun _ => (0 : Int32)) 0 (-1 : Int32)) 1 (-1 : Int32)) 2 (-1 : Int32)) 3 (-1 : Int32)) 4 (-1 : Int32)) 5 (-1 : Int32)) 6 (-1 : Int32)) 7 (-1 : Int32)) 8 (-1 : Int32)) 9 (-1 : Int32)) 10 (-1 : Int32)) 11 (-1 : Int32)) 12 (-1 : Int32)) 13 (-1 : Int32)) 14 (-1 : Int32)) 15 (-1 : Int32)) 16 (-1 : Int32)) 17 (-1 : Int32)) 18 (-1 : Int32)) 19 (-1 : Int32)) 20 (-1 : Int32)) 21 (-1 : Int32)) 22 (-1 : Int32)) 23 (-1 : Int32))))]) rfl (fun _ h => h) dJ7_fill_53178_13 ?_
  refine g_iinc (lv' := [(0, .ref p9), (1, .int (-1 : Int32)), (2, .int (24 : Int32)), (3, .int (24 : Int32))]) B dJ7_fill_53178_14 2 rfl (by decide) (by decide) [1, 2, 0, 3] rfl ?_
  refine g_goto (tgt := 5) B dJ7_fill_53178_17 (by decide) ?_
  refine g_iload_n B dJ7_fill_53178_5 2 rfl ?_
  refine g_iload_n B dJ7_fill_53178_6 3 rfl ?_
  refine g_icmp_ge (tgt := 20) B dJ7_fill_53178_7 (by decide) (fun _ => ?_) (fun c25 => absurd (by decide) c25)
  refine g_arrI 0 (fun _ => (-1 : Int32)) rfl (by decide) (w2 := [(p9, .inl (cI, 24, .inl (fun _ => (-1 : Int32))))]) rfl ?_
  exact g_vret_w B hr hlocks () (rfl) (trivial) [0] (by decide) rfl dJ7_fill_53178_20

