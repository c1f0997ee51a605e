set_option maxHeartbeats 400000 in
set_option maxRecDepth 100000 in
theorem b_count (l : Launch) {D : va_G} {cI cL cZ cQ : ClassId} (ar : Nat) (p0 : Nat → Bool)  : PM l yX6_count wsX6_count ({ frames := 0, cells := 0, slots := 0, locals := 0 } : Room) D (gTys cI cL cZ cQ) [.ref ar] [(ar, .inl (cZ, 24, .inl (fun i => bI (p0 i))))] (fun (_ : Unit) => True) (fun (_ : Unit) => some (.int (nI (fb_ct p0 24)))) := by
  refine PM.ofG cX6_count 6 (some .int) (by decide +kernel) rfl (Nat.le_of_ble_eq_true rfl) ?_
  intro p e s m below meth c B hr hlocks hname hK hN
  refine g_iconst (v := (0 : Int32)) B dX6_count_0 (by decide) ?_
  refine g_istore_n (lv' := [(0, .ref ar), (1, .int (0 : Int32))]) B dX6_count_1 rfl (by decide) [1, 0] rfl ?_
  refine g_aload_n B dX6_count_2 0 rfl ?_
  refine g_astore_n (lv' := [(0, .ref ar), (1, .int (0 : Int32)), (2, .ref ar)]) B dX6_count_3 rfl (by decide) [1, 2, 0] rfl ?_
  refine g_aload_n B dX6_count_4 2 rfl ?_
  refine g_alen (v := (24 : Int32)) B hK 0 2 rfl rfl rfl dX6_count_5 ?_
  refine g_istore_n (lv' := [(0, .ref ar), (1, .int (0 : Int32)), (2, .ref ar), (3, .int (24 : Int32))]) B dX6_count_6 rfl (by decide) [1, 2, 3, 0] rfl ?_
  refine g_iconst (v := (0 : Int32)) B dX6_count_7 (by decide) ?_
  refine g_istore (lv' := [(0, .ref ar), (1, .int (0 : Int32)), (2, .ref ar), (3, .int (24 : Int32)), (4, .int (0 : Int32))]) B dX6_count_8 (by decide) [1, 2, 3, 4, 0] rfl ?_
  refine g_loop (σ := Nat) (fun x9 => x9 ≤ 24) (fun x9 => 25 - x9) (fun x9 => 0) (fun x9 => 0) (fun x9 => [(ar, .inl (cZ, 24, .inl (fun i => bI (p0 i))))]) (fun x9 => [(0, .ref ar), (1, .int (nI (fb_ct p0 x9))), (2, .ref ar), (3, .int (24 : Int32)), (4, .int (nI x9))]) (fun x9 hI ih10 => ?_) 0 (by (try dsimp only); omega) rfl rfl rfl rfl
  obtain ⟨k, e9⟩ : ∃ z, z = x9 := ⟨_, rfl⟩; subst e9
  try dsimp only at hI ih10 ⊢
  have v1 := fb_ct_le p0 k
  refine g_iload B dX6_count_10 4 rfl ?_
  refine g_iload_n B dX6_count_12 3 rfl ?_
  refine g_ncmp_ge (tgt := 41) B k 24 rfl rfl (by omega) (by omega) dX6_count_13 (by decide) (fun c2 => ?_) (fun c2 => ?_)
  · refine g_iload_n B dX6_count_41 1 rfl ?_
    obtain rfl : k = 24 := by omega
    exact g_iret_p B hr rfl hlocks () (rfl) (trivial) dX6_count_42
  · refine g_aload_n B dX6_count_16 2 rfl ?_
    refine g_iload B dX6_count_17 4 rfl ?_
    refine g_zald B hK 0 2 rfl rfl k rfl (by omega) (by omega) (v := bI (p0 k)) rfl dX6_count_19 ?_
    refine g_istore (lv' := [(0, .ref ar), (1, .int (nI (fb_ct p0 k))), (2, .ref ar), (3, .int (24 : Int32)), (4, .int (nI k)), (5, .int (bI (p0 k)))]) B dX6_count_20 (by decide) [1, 2, 3, 4, 5, 0] rfl ?_
    refine g_iload_n B dX6_count_22 1 rfl ?_
    refine g_iload B dX6_count_23 5 rfl ?_
    refine g_bif_eq (tgt := 32) B dX6_count_25 (by decide) (fun c3 => ?_) (fun c3 => ?_)
    · refine g_iconst (v := (0 : Int32)) B dX6_count_32 (by decide) ?_
      refine g_iadd (v := nI (fb_ct p0 k)) B dX6_count_33 (nI_add (fb_ct p0 k) 0) ?_
      refine g_eqi (y := nI (fb_ct p0 (k + 1))) (by rw [fb_ct_succ, c3]; rfl) ?_
      refine g_istore_n (lv' := [(0, .ref ar), (1, .int (nI (fb_ct p0 (k + 1)))), (2, .ref ar), (3, .int (24 : Int32)), (4, .int (nI k)), (5, .int (bI (p0 k)))]) B dX6_count_34 rfl (by decide) [1, 0, 2, 3, 4, 5] rfl ?_
      refine g_iinc (lv' := [(0, .ref ar), (1, .int (nI (fb_ct p0 (k + 1)))), (2, .ref ar), (3, .int (24 : Int32)), (4, .int (nI (k + 1))), (5, .int (bI (p0 k)))]) B dX6_count_35 4 rfl (nI_1 k) (by decide) [1, 2, 3, 4, 0, 5] rfl ?_
      refine g_goto (tgt := 10) B dX6_count_38 (by decide) ?_
      exact g_pick [0, 1, 2, 3, 4] rfl (ih10 (k + 1) (by (try dsimp only); omega) (by (try dsimp only); omega))
    · refine g_iconst (v := (1 : Int32)) B dX6_count_28 (by decide) ?_
      refine g_goto (tgt := 33) B dX6_count_29 (by decide) ?_
      refine g_iadd (v := nI ((fb_ct p0 k) + 1)) B dX6_count_33 (nI_add (fb_ct p0 k) 1) ?_
      refine g_eqi (y := nI (fb_ct p0 (k + 1))) (by rw [fb_ct_succ, c3]; rfl) ?_
      refine g_istore_n (lv' := [(0, .ref ar), (1, .int (nI (fb_ct p0 (k + 1)))), (2, .ref ar), (3, .int (24 : Int32)), (4, .int (nI k)), (5, .int (bI (p0 k)))]) B dX6_count_34 rfl (by decide) [1, 0, 2, 3, 4, 5] rfl ?_
      refine g_iinc (lv' := [(0, .ref ar), (1, .int (nI (fb_ct p0 (k + 1)))), (2, .ref ar), (3, .int (24 : Int32)), (4, .int (nI (k + 1))), (5, .int (bI (p0 k)))]) B dX6_count_35 4 rfl (nI_1 k) (by decide) [1, 2, 3, 4, 0, 5] rfl ?_
      refine g_goto (tgt := 10) B dX6_count_38 (by decide) ?_
      exact g_pick [0, 1, 2, 3, 4] rfl (ih10 (k + 1) (by (try dsimp only); omega) (by (try dsimp only); omega))

