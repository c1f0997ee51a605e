set_option maxHeartbeats 400000 in
set_option maxRecDepth 100000 in
theorem k_ff_12 (l : Launch) {D : va_G} {cI cL cZ cQ : ClassId} (a3 : Nat) (F : Nat → Int64) (n : Nat) (k : Nat) (o : Int64) (us : Nat) (b : Nat) (h1 : n ≤ 12) (h2 : n ≤ k + 12) (h3 : k ≤ 12) (h4 : us ≤ k) (h5 : b ≤ 12) : PM l yX5_fewestFrom wsX5_fewestFrom ({ frames := 13, cells := 0, slots := 0, locals := 345 } : Room) D (gTys cI cL cZ cQ) [.ref a3, .int (nI n), .int (nI k), .long o, .int (nI us), .int (nI b)] [(a3, .inl (cL, 41, .inr (.inl F)))] (fun (_ : Unit) => True) (fun (_ : Unit) => some (.int (nI (ks_ff F n 12 k o us b)))) := by
  refine PM.ofG cX5_fewestFrom 8 (some .int) (by decide +kernel) rfl (Nat.le_of_ble_eq_true rfl) ?_
  intro p e s m below meth c B hr hlocks hname hK hN
  have w1 := ks_ff_le F n 11 (k + 1) (o &&& (F k ^^^ (-1))) (us + 1) b
  refine g_lload_n B dX5_fewestFrom_0 3 rfl ?_
  refine g_lconst (v := (0 : Int64)) B dX5_fewestFrom_1 rfl ?_
  refine g_lcmp (v := (lg_cmp o (0 : Int64))) B dX5_fewestFrom_2 rfl ?_
  refine g_lif_ne (tgt := 14) B dX5_fewestFrom_3 (by decide) (fun c1 => ?_) (fun c1 => ?_)
  · refine g_iload_n B dX5_fewestFrom_14 2 rfl ?_
    refine g_iload_n B dX5_fewestFrom_15 1 rfl ?_
    refine g_ncmp_ge (tgt := 34) B k n rfl rfl (by omega) (by omega) dX5_fewestFrom_16 (by decide) (fun c3 => ?_) (fun c3 => ?_)
    · refine g_iload B dX5_fewestFrom_34 5 rfl ?_
      exact g_iret_p B hr rfl hlocks () (by rw [ks_ff_s, if_neg c1, if_pos (by omega)]) (trivial) dX5_fewestFrom_36
    · refine g_iload_n B dX5_fewestFrom_19 2 rfl ?_
      refine g_bipush (v := (12 : Int32)) B dX5_fewestFrom_20 (by decide) ?_
      refine g_ncmp_ge (tgt := 34) B k 12 rfl rfl (by omega) (by omega) dX5_fewestFrom_22 (by decide) (fun c5 => ?_) (fun c5 => ?_)
      · refine g_iload B dX5_fewestFrom_34 5 rfl ?_
        exact g_iret_p B hr rfl hlocks () (by rw [ks_ff_s, if_neg c1, if_pos (by omega)]) (trivial) dX5_fewestFrom_36
      · refine g_iload B dX5_fewestFrom_25 4 rfl ?_
        refine g_iconst (v := (1 : Int32)) B dX5_fewestFrom_27 (by decide) ?_
        refine g_iadd (v := nI (us + 1)) B dX5_fewestFrom_28 (nI_add us 1) ?_
        refine g_iload B dX5_fewestFrom_29 5 rfl ?_
        refine g_ncmp_lt (tgt := 37) B (us + 1) b rfl rfl (by omega) (by omega) dX5_fewestFrom_31 (by decide) (fun c7 => ?_) (fun c7 => ?_)
        · refine g_iload B dX5_fewestFrom_37 5 rfl ?_
          refine g_istore (lv' := [(0, .ref a3), (1, .int (nI n)), (2, .int (nI k)), (3, .long o), (5, .int (nI us)), (6, .int (nI b)), (7, .int (nI b))]) B dX5_fewestFrom_39 (by decide) [1, 2, 3, 4, 5, 6, 0] rfl ?_
          refine g_aload_n B dX5_fewestFrom_41 0 rfl ?_
          refine g_iload_n B dX5_fewestFrom_42 2 rfl ?_
          refine g_lald B hK 0 1 rfl rfl k rfl (by omega) (by omega) (v := (F k)) rfl dX5_fewestFrom_43 ?_
          refine g_lload_n B dX5_fewestFrom_44 3 rfl ?_
          refine g_land (v := ((F k) &&& o)) B dX5_fewestFrom_45 (rfl) ?_
          refine g_lconst (v := (0 : Int64)) B dX5_fewestFrom_46 rfl ?_
          refine g_lcmp (v := (lg_cmp ((F k) &&& o) (0 : Int64))) B dX5_fewestFrom_47 rfl ?_
          refine g_lif_eq (tgt := 76) B dX5_fewestFrom_48 (by decide) (fun c8 => ?_) (fun c8 => ?_)
          · refine g_aload_n B dX5_fewestFrom_76 0 rfl ?_
            refine g_iload_n B dX5_fewestFrom_77 1 rfl ?_
            refine g_iload_n B dX5_fewestFrom_78 2 rfl ?_
            refine g_iconst (v := (1 : Int32)) B dX5_fewestFrom_79 (by decide) ?_
            refine g_iadd (v := nI (k + 1)) B dX5_fewestFrom_80 (nI_add k 1) ?_
            refine g_lload_n B dX5_fewestFrom_81 3 rfl ?_
            refine g_iload B dX5_fewestFrom_82 4 rfl ?_
            refine g_iload B dX5_fewestFrom_84 6 rfl ?_
            refine g_callP (g_runS B (PM.met (k_ff_11 l (D := D) (cI := cI) (cL := cL) (cZ := cZ) (cQ := cQ) a3 F n (k + 1) o us b (by first | with_reducible assumption | omega | assumption) (by first | with_reducible assumption | omega | assumption) (by first | with_reducible assumption | omega | assumption) (by first | with_reducible assumption | omega | assumption) (by first | with_reducible assumption | omega | assumption))) (gPp.pre (av := [.ref a3, .int (nI n), .int (nI (k + 1)), .long o, .int (nI us), .int (nI b)]) (wc := [(a3, .inl (cL, 41, .inr (.inl F)))]) hK hN [0] rfl (by decide)) gX5_fewestFrom_X5_fewestFrom rfl kd_X5_fewestFrom ⟨by decide, by decide⟩ (st := []) rfl (Nat.le_of_ble_eq_true rfl) dX5_fewestFrom_86 ⟨by decide, by decide⟩) (fun u hu => ?_)
            exact g_iret_p B hr rfl hlocks () (by rw [ks_ff_s, if_neg c1, if_neg (by omega), if_pos c8]) (trivial) dX5_fewestFrom_89
          · refine g_aload_n B dX5_fewestFrom_51 0 rfl ?_
            refine g_iload_n B dX5_fewestFrom_52 1 rfl ?_
            refine g_iload_n B dX5_fewestFrom_53 2 rfl ?_
            refine g_iconst (v := (1 : Int32)) B dX5_fewestFrom_54 (by decide) ?_
            refine g_iadd (v := nI (k + 1)) B dX5_fewestFrom_55 (nI_add k 1) ?_
            refine g_lload_n B dX5_fewestFrom_56 3 rfl ?_
            refine g_aload_n B dX5_fewestFrom_57 0 rfl ?_
            refine g_iload_n B dX5_fewestFrom_58 2 rfl ?_
            refine g_lald B hK 0 1 rfl rfl k rfl (by omega) (by omega) (v := (F k)) rfl dX5_fewestFrom_59 ?_
            refine g_ldc2 (v := (-1 : Int64)) B dX5_fewestFrom_60 (List.mem_of_getElem? (i := 5) rfl) ?_
            refine g_lxor (v := ((F k) ^^^ (-1 : Int64))) B dX5_fewestFrom_63 (rfl) ?_
            refine g_land (v := (o &&& ((F k) ^^^ (-1 : Int64)))) B dX5_fewestFrom_64 (rfl) ?_
            refine g_iload B dX5_fewestFrom_65 4 rfl ?_
            refine g_iconst (v := (1 : Int32)) B dX5_fewestFrom_67 (by decide) ?_
            refine g_iadd (v := nI (us + 1)) B dX5_fewestFrom_68 (nI_add us 1) ?_
            refine g_iload B dX5_fewestFrom_69 6 rfl ?_
            refine g_callP (g_runS B (PM.met (k_ff_11 l (D := D) (cI := cI) (cL := cL) (cZ := cZ) (cQ := cQ) a3 F n (k + 1) (o &&& ((F k) ^^^ (-1 : Int64))) (us + 1) b (by first | with_reducible assumption | omega | assumption) (by first | with_reducible assumption | omega | assumption) (by first | with_reducible assumption | omega | assumption) (by first | with_reducible assumption | omega | assumption) (by first | with_reducible assumption | omega | assumption))) (gPp.pre (av := [.ref a3, .int (nI n), .int (nI (k + 1)), .long (o &&& ((F k) ^^^ (-1 : Int64))), .int (nI (us + 1)), .int (nI b)]) (wc := [(a3, .inl (cL, 41, .inr (.inl F)))]) hK hN [0] rfl (by decide)) gX5_fewestFrom_X5_fewestFrom rfl kd_X5_fewestFrom ⟨by decide, by decide⟩ (st := []) rfl (Nat.le_of_ble_eq_true rfl) dX5_fewestFrom_71 ⟨by decide, by decide⟩) (fun u hu => ?_)
            refine g_istore (lv' := [(0, .ref a3), (1, .int (nI n)), (2, .int (nI k)), (3, .long o), (5, .int (nI us)), (6, .int (nI b)), (7, .int (nI (ks_ff F n 11 (k + 1) (o &&& ((F k) ^^^ (-1 : Int64))) (us + 1) b)))]) B dX5_fewestFrom_74 (by decide) [1, 2, 3, 4, 5, 6, 0] rfl ?_
            refine g_aload_n B dX5_fewestFrom_76 0 rfl ?_
            refine g_iload_n B dX5_fewestFrom_77 1 rfl ?_
            refine g_iload_n B dX5_fewestFrom_78 2 rfl ?_
            refine g_iconst (v := (1 : Int32)) B dX5_fewestFrom_79 (by decide) ?_
            refine g_iadd (v := nI (k + 1)) B dX5_fewestFrom_80 (nI_add k 1) ?_
            refine g_lload_n B dX5_fewestFrom_81 3 rfl ?_
            refine g_iload B dX5_fewestFrom_82 4 rfl ?_
            refine g_iload B dX5_fewestFrom_84 6 rfl ?_
            refine g_callP (g_runS B (PM.met (k_ff_11 l (D := D) (cI := cI) (cL := cL) (cZ := cZ) (cQ := cQ) a3 F n (k + 1) o us (ks_ff F n 11 (k + 1) (o &&& ((F k) ^^^ (-1 : Int64))) (us + 1) b) (by first | with_reducible assumption | omega | assumption) (by first | with_reducible assumption | omega | assumption) (by first | with_reducible assumption | omega | assumption) (by first | with_reducible assumption | omega | assumption) (by first | with_reducible assumption | omega | assumption))) (gPp.pre (av := [.ref a3, .int (nI n), .int (nI (k + 1)), .long o, .int (nI us), .int (nI (ks_ff F n 11 (k + 1) (o &&& ((F k) ^^^ (-1 : Int64))) (us + 1) b))]) (wc := [(a3, .inl (cL, 41, .inr (.inl F)))]) hK hN [0] rfl (by decide)) gX5_fewestFrom_X5_fewestFrom rfl kd_X5_fewestFrom ⟨by decide, by decide⟩ (st := []) rfl (Nat.le_of_ble_eq_true rfl) dX5_fewestFrom_86 ⟨by decide, by decide⟩) (fun u hu => ?_)
            exact g_iret_p B hr rfl hlocks () (by rw [ks_ff_s, if_neg c1, if_neg (by omega), if_neg c8]) (trivial) dX5_fewestFrom_89
        · refine g_iload B dX5_fewestFrom_34 5 rfl ?_
          exact g_iret_p B hr rfl hlocks () (by rw [ks_ff_s, if_neg c1, if_pos (by omega)]) (trivial) dX5_fewestFrom_36
  · refine g_iload B dX5_fewestFrom_6 4 rfl ?_
    refine g_iload B dX5_fewestFrom_8 5 rfl ?_
    refine g_mmin (v := (if nI b < nI us then nI b else nI us)) B (List.mem_of_getElem? (i := 1) rfl) (List.mem_of_getElem? (i := 2) rfl) (List.mem_of_getElem? (i := 3) rfl) (List.mem_of_getElem? (i := 4) rfl) (by decide) (by decide) (by decide) (by decide) dX5_fewestFrom_10 (rfl) ?_
    refine g_eqi (y := nI (if b < us then b else us)) (ks_minN (by omega) (by omega)) ?_
    exact g_iret_p B hr rfl hlocks () (by rw [ks_ff_s, if_pos c1]) (trivial) dX5_fewestFrom_13

