set_option maxHeartbeats 4000000 in
set_option maxRecDepth 100000 in
theorem k_foundBy (l : Launch) {D : va_G} {cI cL cZ cQ : ClassId} (ha : Nat) (a0 : Nat) (a1 : Nat) (a2 : Nat) (a3 : Nat) (n : Nat) (S : Int64) (F : Nat → Int64) (T : Int64)  : PM l yX0_foundBy wsX0_foundBy ({ frames := 1, cells := 0, slots := 0, locals := 22 } : Room) D (gTys cI cL cZ cQ) [.ref ha, .long T] [(ha, .inr (0, [.ref a0, .ref a1, .ref a2, .ref a3, .int (nI n), .long S])), (a3, .inl (cL, 41, .inr (.inl F)))] (fun (_ : Unit) => True) (fun (_ : Unit) => some (.long (ks_fb F T 41))) := by
  refine PM.ofG cX0_foundBy 6 (some .long) (by decide +kernel) rfl (Nat.le_of_ble_eq_true rfl) ?_
  intro p e s m below meth c B hr hlocks hname hK hN
  refine g_lconst (v := (0 : Int64)) B dX0_foundBy_0 rfl ?_
  refine g_lstore_n (lv' := [(0, .ref ha), (1, .long T), (3, .long (0 : Int64))]) B dX0_foundBy_1 rfl (by decide) [1, 2, 0] rfl ?_
  refine g_iconst (v := (0 : Int32)) B dX0_foundBy_2 (by decide) ?_
  refine g_istore (lv' := [(0, .ref ha), (1, .long T), (3, .long (0 : Int64)), (5, .int (0 : Int32))]) B dX0_foundBy_3 (by decide) [1, 2, 3, 0] rfl ?_
  refine g_loop (σ := Nat) (fun x9 => x9 ≤ 41) (fun x9 => 42 - x9) (fun x9 => 0) (fun x9 => 0) (fun x9 => [(ha, .inr (0, [.ref a0, .ref a1, .ref a2, .ref a3, .int (nI n), .long S])), (a3, .inl (cL, 41, .inr (.inl F)))]) (fun x9 => [(0, .ref ha), (1, .long T), (3, .long (ks_fb F T x9)), (5, .int (nI x9))]) (fun x9 hI ih5 => ?_) 0 (by (try dsimp only); omega) rfl rfl rfl rfl
  obtain ⟨k, e9⟩ : ∃ z, z = x9 := ⟨_, rfl⟩; subst e9
  try dsimp only at hI ih5 ⊢
  refine g_iload B dX0_foundBy_5 3 rfl ?_
  refine g_bipush (v := (41 : Int32)) B dX0_foundBy_7 (by decide) ?_
  refine g_ncmp_ge (tgt := 46) B k 41 rfl rfl (by omega) (by omega) dX0_foundBy_9 (by decide) (fun c2 => ?_) (fun c2 => ?_)
  · refine g_lload_n B dX0_foundBy_46 2 rfl ?_
    have hz : ks_fb F T 41 = ks_fb F T k := by rw [show k = 41 by omega]
    refine g_eql (y := ks_fb F T 41) hz.symm ?_
    exact g_lret_p B hr hlocks () (rfl) (trivial) dX0_foundBy_47
  · refine g_lload_n B dX0_foundBy_12 1 rfl ?_
    refine g_iload B dX0_foundBy_13 3 rfl ?_
    refine g_lushr (v := lShr T (nI k)) B dX0_foundBy_15 (rfl) ?_
    refine g_lconst (v := (0 : Int64)) B dX0_foundBy_16 rfl ?_
    refine g_lcmp (v := (lg_cmp (lShr T (nI k)) (0 : Int64))) B dX0_foundBy_17 rfl ?_
    refine g_lif_eq (tgt := 46) B dX0_foundBy_18 (by decide) (fun c3 => ?_) (fun c3 => ?_)
    · refine g_lload_n B dX0_foundBy_46 2 rfl ?_
      have hz : ks_fb F T 41 = ks_fb F T k := by have := ks_fb_stop (F := F) (S := T) (k := k) (fun j h1 h2 => hb_shr (by omega) c3 h1 (by omega)) (41 - k) (by omega); rwa [show k + (41 - k) = 41 by omega] at this
      refine g_eql (y := ks_fb F T 41) hz.symm ?_
      exact g_lret_p B hr hlocks () (rfl) (trivial) dX0_foundBy_47
    · refine g_lload_n B dX0_foundBy_21 1 rfl ?_
      refine g_iload B dX0_foundBy_22 3 rfl ?_
      refine g_callP (g_runSN B hN (PM.met (k_contains l (D := D) (cI := cI) (cL := cL) (cZ := cZ) (cQ := cQ) T k (by first | with_reducible assumption | omega | assumption))) (gPp.pre (av := [.long T, .int (nI k)]) (wc := []) hK hN [] rfl (by decide)) gX0_foundBy_X5_contains_n29 (List.mem_of_getElem? (i := 3) rfl) (List.mem_of_getElem? (i := 2) rfl) 3 rfl rfl kd_X5_contains ⟨by decide, by decide⟩ (st := []) rfl (Nat.le_of_ble_eq_true rfl) dX0_foundBy_24 ⟨by decide, by decide⟩) (fun u hu => ?_)
      refine g_bif_eq (tgt := 40) B dX0_foundBy_27 (by decide) (fun c5 => ?_) (fun c5 => ?_)
      · refine g_eqlv (lv2 := [(0, .ref ha), (1, .long T), (3, .long (ks_fb F T (k + 1))), (5, .int (nI k))]) (by rw [show ks_fb F T (k + 1) = (if hasB T k then ks_fb F T k ||| F k else ks_fb F T k) from rfl, c5]; rfl) ?_
        refine g_iinc (lv' := [(0, .ref ha), (1, .long T), (3, .long (ks_fb F T (k + 1))), (5, .int (nI (k + 1)))]) B dX0_foundBy_40 3 rfl (nI_1 k) (by decide) [1, 2, 3, 0] rfl ?_
        refine g_goto (tgt := 5) B dX0_foundBy_43 (by decide) ?_
        exact ih5 (k + 1) (by (try dsimp only); omega) (by (try dsimp only); omega)
      · refine g_lload_n B dX0_foundBy_30 2 rfl ?_
        refine g_aload_n B dX0_foundBy_31 0 rfl ?_
        refine g_get (C := RX0) (T := TX0) (N := 6) (ci := 0) B hK hin_X0_foundBy_RX0 0 rfl rfl 3 (by decide) (List.mem_of_getElem? (i := 1) rfl) rfl (v := .ref a3) rfl dX0_foundBy_32 ?_
        refine g_iload B dX0_foundBy_35 3 rfl ?_
        refine g_lald B hK 1 1 rfl rfl k rfl (by omega) (by omega) (v := (F k)) rfl dX0_foundBy_37 ?_
        refine g_lor (v := ((ks_fb F T k) ||| (F k))) B dX0_foundBy_38 (rfl) ?_
        refine g_lstore_n (lv' := [(0, .ref ha), (1, .long T), (3, .long ((ks_fb F T k) ||| (F k))), (5, .int (nI k))]) B dX0_foundBy_39 rfl (by decide) [1, 2, 0, 3] rfl ?_
        refine g_eqlv (lv2 := [(0, .ref ha), (1, .long T), (3, .long (ks_fb F T (k + 1))), (5, .int (nI k))]) (by rw [show ks_fb F T (k + 1) = (if hasB T k then ks_fb F T k ||| F k else ks_fb F T k) from rfl, c5]; rfl) ?_
        refine g_iinc (lv' := [(0, .ref ha), (1, .long T), (3, .long (ks_fb F T (k + 1))), (5, .int (nI (k + 1)))]) B dX0_foundBy_40 3 rfl (nI_1 k) (by decide) [1, 2, 3, 0] rfl ?_
        refine g_goto (tgt := 5) B dX0_foundBy_43 (by decide) ?_
        exact ih5 (k + 1) (by (try dsimp only); omega) (by (try dsimp only); omega)

