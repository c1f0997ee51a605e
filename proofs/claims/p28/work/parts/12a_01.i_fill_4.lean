set_option maxHeartbeats 4000000 in
set_option maxRecDepth 100000 in
theorem i_fill_4 (l : Launch) {D : va_G} {cI cL cZ cQ : ClassId} (p9 : Nat)  : WM l yJ7_fill_53178 wsJ7_fill_53178 ({ frames := 0, cells := 0, slots := 0, locals := 0 } : Room) D (gTys cI cL cZ cQ) [.ref p9, .int (1 : Int32)] [(p9, .inl (cI, 4, .inl (fun _ => (0 : Int32))))] (fun (_ : Unit) => True) (fun (_ : Unit) => none) (fun (_ : Unit) => [(p9, .inl (cI, 4, .inl (fun _ => (1 : Int32))))]) := by
  refine WM.ofG cJ7_fill_53178 4 none (by decide +kernel) rfl (Nat.le_of_ble_eq_true rfl) ?_
  intro p e s m below meth c A hA B hr hlocks hname hK hN
  refine g_iconst (v := (0 : Int32)) B dJ7_fill_53178_0 (by decide) ?_
  refine g_istore_n (lv' := [(0, .ref p9), (1, .int (1 : Int32)), (2, .int (0 : Int32))]) B dJ7_fill_53178_1 rfl (by decide) [1, 2, 0] rfl ?_
  refine g_aload_n B dJ7_fill_53178_2 0 rfl ?_
  refine g_alen (v := (4 : Int32)) B hK 0 0 rfl rfl rfl dJ7_fill_53178_3 ?_
  refine g_istore_n (lv' := [(0, .ref p9), (1, .int (1 : Int32)), (2, .int (0 : Int32)), (3, .int (4 : Int32))]) B dJ7_fill_53178_4 rfl (by decide) [1, 2, 3, 0] rfl ?_
  refine g_iload_n B dJ7_fill_53178_5 2 rfl ?_
  refine g_iload_n B dJ7_fill_53178_6 3 rfl ?_
  refine g_icmp_ge (tgt := 20) B dJ7_fill_53178_7 (by decide) (fun c1 => absurd c1 (by decide)) (fun _ => ?_)
  refine g_aload_n B dJ7_fill_53178_10 0 rfl ?_
  refine g_iload_n B dJ7_fill_53178_11 2 rfl ?_
  refine g_iload_n B dJ7_fill_53178_12 1 rfl ?_
  refine g_iast B hK 0 0 rfl rfl 0 rfl (by omega) (by omega) (f2 := (upd (fun _ => (0 : Int32)) 0 (1 : Int32))) (rfl) (w2 := [(p9, .inl (cI, 4, .inl (upd (fun _ => (0 : Int32)) 0 (1 : Int32))))]) rfl (fun _ h => h) dJ7_fill_53178_13 ?_
  refine g_iinc (lv' := [(0, .ref p9), (1, .int (1 : Int32)), (2, .int (1 : Int32)), (3, .int (4 : Int32))]) B dJ7_fill_53178_14 2 rfl (by decide) (by decide) [1, 2, 0, 3] rfl ?_
  refine g_goto (tgt := 5) B dJ7_fill_53178_17 (by decide) ?_
  refine g_iload_n B dJ7_fill_53178_5 2 rfl ?_
  refine g_iload_n B dJ7_fill_53178_6 3 rfl ?_
  refine g_icmp_ge (tgt := 20) B dJ7_fill_53178_7 (by decide) (fun c2 => absurd c2 (by decide)) (fun _ => ?_)
  refine g_aload_n B dJ7_fill_53178_10 0 rfl ?_
  refine g_iload_n B dJ7_fill_53178_11 2 rfl ?_
  refine g_iload_n B dJ7_fill_53178_12 1 rfl ?_
  refine g_iast B hK 0 0 rfl rfl 1 rfl (by omega) (by omega) (f2 := (upd (upd (fun _ => (0 : Int32)) 0 (1 : Int32)) 1 (1 : Int32))) (rfl) (w2 := [(p9, .inl (cI, 4, .inl (upd (upd (fun _ => (0 : Int32)) 0 (1 : Int32)) 1 (1 : Int32))))]) rfl (fun _ h => h) dJ7_fill_53178_13 ?_
  refine g_iinc (lv' := [(0, .ref p9), (1, .int (1 : Int32)), (2, .int (2 : Int32)), (3, .int (4 : Int32))]) B dJ7_fill_53178_14 2 rfl (by decide) (by decide) [1, 2, 0, 3] rfl ?_
  refine g_goto (tgt := 5) B dJ7_fill_53178_17 (by decide) ?_
  refine g_iload_n B dJ7_fill_53178_5 2 rfl ?_
  refine g_iload_n B dJ7_fill_53178_6 3 rfl ?_
  refine g_icmp_ge (tgt := 20) B dJ7_fill_53178_7 (by decide) (fun c3 => absurd c3 (by decide)) (fun _ => ?_)
  refine g_aload_n B dJ7_fill_53178_10 0 rfl ?_
  refine g_iload_n B dJ7_fill_53178_11 2 rfl ?_
  refine g_iload_n B dJ7_fill_53178_12 1 rfl ?_
  refine g_iast B hK 0 0 rfl rfl 2 rfl (by omega) (by omega) (f2 := (upd (upd (upd (fun _ => (0 : Int32)) 0 (1 : Int32)) 1 (1 : Int32)) 2 (1 : Int32))) (rfl) (w2 := [(p9, .inl (cI, 4, .inl (upd (upd (upd (fun _ => (0 : Int32)) 0 (1 : Int32)) 1 (1 : Int32)) 2 (1 : Int32))))]) rfl (fun _ h => h) dJ7_fill_53178_13 ?_
  refine g_iinc (lv' := [(0, .ref p9), (1, .int (1 : Int32)), (2, .int (3 : Int32)), (3, .int (4 : Int32))]) B dJ7_fill_53178_14 2 rfl (by decide) (by decide) [1, 2, 0, 3] rfl ?_
  refine g_goto (tgt := 5) B dJ7_fill_53178_17 (by decide) ?_
  refine g_iload_n B dJ7_fill_53178_5 2 rfl ?_
  refine g_iload_n B dJ7_fill_53178_6 3 rfl ?_
  refine g_icmp_ge (tgt := 20) B dJ7_fill_53178_7 (by decide) (fun c4 => absurd c4 (by decide)) (fun _ => ?_)
  refine g_aload_n B dJ7_fill_53178_10 0 rfl ?_
  refine g_iload_n B dJ7_fill_53178_11 2 rfl ?_
  refine g_iload_n B dJ7_fill_53178_12 1 rfl ?_
  refine g_iast B hK 0 0 rfl rfl 3 rfl (by omega) (by omega) (f2 := (upd (upd (upd (upd (fun _ => (0 : Int32)) 0 (1 : Int32)) 1 (1 : Int32)) 2 (1 : Int32)) 3 (1 : Int32))) (rfl) (w2 := [(p9, .inl (cI, 4, .inl (upd (upd (upd (upd (fun _ => (0 : Int32)) 0 (1 : Int32)) 1 (1 : Int32)) 2 (1 : Int32)) 3 (1 : Int32))))]) rfl (fun _ h => h) dJ7_fill_53178_13 ?_
  refine g_iinc (lv' := [(0, .ref p9), (1, .int (1 : Int32)), (2, .int (4 : Int32)), (3, .int (4 : Int32))]) B dJ7_fill_53178_14 2 rfl (by decide) (by decide) [1, 2, 0, 3] rfl ?_
  refine g_goto (tgt := 5) B dJ7_fill_53178_17 (by decide) ?_
  refine g_iload_n B dJ7_fill_53178_5 2 rfl ?_
  refine g_iload_n B dJ7_fill_53178_6 3 rfl ?_
  refine g_icmp_ge (tgt := 20) B dJ7_fill_53178_7 (by decide) (fun _ => ?_) (fun c5 => absurd (by decide) c5)
  refine g_arrI 0 (fun _ => (1 : Int32)) rfl (by decide) (w2 := [(p9, .inl (cI, 4, .inl (fun _ => (1 : Int32))))]) rfl ?_
  exact g_vret_w B hr hlocks () (rfl) (trivial) [0] (by decide) rfl dJ7_fill_53178_20

