set_option maxHeartbeats 4000000 in
set_option maxRecDepth 100000 in
theorem k_note (l : Launch) {D : va_G} {cI cL cZ cQ : ClassId} (ha : Nat) (a0 : Nat) (a1 : Nat) (a2 : Nat) (a3 : Nat) (n : Nat) (S : Int64) (f1 : Nat → Int32) (F : Nat → Int64) (ht : Nat) (t0 : Nat) (ts : Int32) (tr : Int32) (tf : Int64) (k : Nat) (hk : k < 41) : WM l yX0_note wsX0_note ({ frames := 0, cells := 0, slots := 0, locals := 0 } : Room) D (gTys cI cL cZ cQ) [.ref ha, .int (nI k), .ref ht] [(ha, .inr (0, [.ref a0, .ref a1, .ref a2, .ref a3, .int (nI n), .long S])), (a1, .inl (cI, 41, .inl f1)), (a3, .inl (cL, 41, .inr (.inl F))), (ht, .inr (4, [.ref t0, .int ts, .int tr, .long tf]))] (fun (_ : Unit) => True) (fun (_ : Unit) => none) (fun (_ : Unit) => [(ha, .inr (0, [.ref a0, .ref a1, .ref a2, .ref a3, .int (nI n), .long S])), (a1, .inl (cI, 41, .inl (upd f1 k tr))), (a3, .inl (cL, 41, .inr (.inl (vp_updL F k tf)))), (ht, .inr (4, [.ref t0, .int ts, .int tr, .long tf]))]) := by
  refine WM.ofG cX0_note 3 none (by decide +kernel) rfl (Nat.le_of_ble_eq_true rfl) ?_
  intro p e s m below meth c A hA B hr hlocks hname hK hN
  refine g_aload_n B dX0_note_0 0 rfl ?_
  refine g_get (C := RX0) (T := TX0) (N := 6) (ci := 0) B hK hin_X0_note_RX0 0 rfl rfl 1 (by decide) (List.mem_of_getElem? (i := 1) rfl) rfl (v := .ref a1) rfl dX0_note_1 ?_
  refine g_iload_n B dX0_note_4 1 rfl ?_
  refine g_aload_n B dX0_note_5 2 rfl ?_
  refine g_getN (C := RX4) (T := TX4) (N := 4) (ci := 4) B hK hin_X0_note_RX4 3 rfl rfl 2 (by decide) hN 15 rfl rfl (v := .int tr) rfl dX0_note_6 ?_
  refine g_iast B hK 1 0 rfl rfl k rfl (by omega) (by omega) (f2 := (upd f1 k tr)) (rfl) (w2 := [(ha, .inr (0, [.ref a0, .ref a1, .ref a2, .ref a3, .int (nI n), .long S])), (a1, .inl (cI, 41, .inl (upd f1 k tr))), (a3, .inl (cL, 41, .inr (.inl F))), (ht, .inr (4, [.ref t0, .int ts, .int tr, .long tf]))]) rfl (fun _ h => h) dX0_note_9 ?_
  refine g_aload_n B dX0_note_10 0 rfl ?_
  refine g_get (C := RX0) (T := TX0) (N := 6) (ci := 0) B hK hin_X0_note_RX0 0 rfl rfl 3 (by decide) (List.mem_of_getElem? (i := 2) rfl) rfl (v := .ref a3) rfl dX0_note_11 ?_
  refine g_iload_n B dX0_note_14 1 rfl ?_
  refine g_aload_n B dX0_note_15 2 rfl ?_
  refine g_getN (C := RX4) (T := TX4) (N := 4) (ci := 4) B hK hin_X0_note_RX4 3 rfl rfl 3 (by decide) hN 16 rfl rfl (v := .long tf) rfl dX0_note_16 ?_
  refine g_last B hK 2 1 rfl rfl k rfl (by omega) (by omega) (f2 := (vp_updL F k tf)) (rfl) (w2 := [(ha, .inr (0, [.ref a0, .ref a1, .ref a2, .ref a3, .int (nI n), .long S])), (a1, .inl (cI, 41, .inl (upd f1 k tr))), (a3, .inl (cL, 41, .inr (.inl (vp_updL F k tf)))), (ht, .inr (4, [.ref t0, .int ts, .int tr, .long tf]))]) rfl (fun _ h => h) dX0_note_19 ?_
  exact g_vret_w B hr hlocks () (rfl) (trivial) [0, 1, 2, 3] (by decide) rfl dX0_note_20

