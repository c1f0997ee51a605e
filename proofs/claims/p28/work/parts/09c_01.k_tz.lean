set_option maxHeartbeats 400000 in
set_option maxRecDepth 100000 in
theorem k_tz (l : Launch) {D : va_G} {cI cL cZ cQ : ClassId} (x : Int64)  : PM l yJ13_numberOfTrailingZeros_95d88 wsJ13_numberOfTrailingZeros_95d88 ({ frames := 1, cells := 0, slots := 0, locals := 21 } : Room) D (gTys cI cL cZ cQ) [.long x] [] (fun (_ : Unit) => True) (fun (_ : Unit) => some (.int (ks_tz x))) := by
  refine PM.ofG cJ13_numberOfTrailingZeros_95d88 3 (some .int) (by decide +kernel) rfl (Nat.le_of_ble_eq_true rfl) ?_
  intro p e s m below meth c B hr hlocks hname hK hN
  refine g_lload_n B dJ13_numberOfTrailingZeros_95d88_0 0 rfl ?_
  refine g_l2i (v := x.toInt32) B dJ13_numberOfTrailingZeros_95d88_1 rfl ?_
  refine g_istore_n (lv' := [(0, .long x), (2, .int x.toInt32)]) B dJ13_numberOfTrailingZeros_95d88_2 rfl (by decide) [1, 0] rfl ?_
  refine g_iload_n B dJ13_numberOfTrailingZeros_95d88_3 1 rfl ?_
  refine g_if_ne (tgt := 21) B dJ13_numberOfTrailingZeros_95d88_4 (by decide) (fun c1 => ?_) (fun c1 => ?_)
  · refine g_iload_n B dJ13_numberOfTrailingZeros_95d88_21 1 rfl ?_
    refine g_callP (g_runS B (PM.met (k_tzI l (D := D) (cI := cI) (cL := cL) (cZ := cZ) (cQ := cQ) x.toInt32 )) (gPp.pre (av := [.int x.toInt32]) (wc := []) hK hN [] rfl (by decide)) gJ13_numberOfTrailingZeros_95d88_J6_numberOfTrailingZeros_0f7a4 rfl kd_J6_numberOfTrailingZeros_0f7a4 ⟨by decide, by decide⟩ (st := []) rfl (Nat.le_of_ble_eq_true rfl) dJ13_numberOfTrailingZeros_95d88_22 ⟨by decide, by decide⟩) (fun u hu => ?_)
    exact g_iret_p B hr rfl hlocks () (by unfold ks_tz; first | rw [if_pos c1] | rw [if_neg c1]) (trivial) dJ13_numberOfTrailingZeros_95d88_25
  · refine g_bipush (v := (32 : Int32)) B dJ13_numberOfTrailingZeros_95d88_7 (by decide) ?_
    refine g_lload_n B dJ13_numberOfTrailingZeros_95d88_9 0 rfl ?_
    refine g_bipush (v := (32 : Int32)) B dJ13_numberOfTrailingZeros_95d88_10 (by decide) ?_
    refine g_lushr (v := lShr x (32 : Int32)) B dJ13_numberOfTrailingZeros_95d88_12 (rfl) ?_
    refine g_l2i (v := (lShr x (32 : Int32)).toInt32) B dJ13_numberOfTrailingZeros_95d88_13 rfl ?_
    refine g_callP (g_runS B (PM.met (k_tzI l (D := D) (cI := cI) (cL := cL) (cZ := cZ) (cQ := cQ) ((lShr x (32 : Int32)).toInt32) )) (gPp.pre (av := [.int ((lShr x (32 : Int32)).toInt32)]) (wc := []) hK hN [] rfl (by decide)) gJ13_numberOfTrailingZeros_95d88_J6_numberOfTrailingZeros_0f7a4 rfl kd_J6_numberOfTrailingZeros_0f7a4 ⟨by decide, by decide⟩ (st := [.int (32 : Int32)]) rfl (Nat.le_of_ble_eq_true rfl) dJ13_numberOfTrailingZeros_95d88_14 ⟨by decide, by decide⟩) (fun u hu => ?_)
    refine g_iadd (v := ((32 : Int32) + (ks_tzI ((lShr x (32 : Int32)).toInt32)))) B dJ13_numberOfTrailingZeros_95d88_17 (rfl) ?_
    refine g_goto (tgt := 25) B dJ13_numberOfTrailingZeros_95d88_18 (by decide) ?_
    exact g_iret_p B hr rfl hlocks () (by unfold ks_tz; first | rw [if_pos c1] | rw [if_neg c1]) (trivial) dJ13_numberOfTrailingZeros_95d88_25

