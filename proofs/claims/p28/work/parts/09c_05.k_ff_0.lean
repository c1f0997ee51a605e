set_option maxHeartbeats 400000 in
set_option maxRecDepth 100000 in
theorem k_ff_0 (l : Launch) {D : va_G} {cI cL cZ cQ : ClassId} (a3 : Nat) (F : Nat → Int64) (n : Nat) (k : Nat) (o : Int64) (us : Nat) (b : Nat) (h1 : n ≤ 12) (h2 : n ≤ k + 0) (h3 : k ≤ 12) (h4 : us ≤ k) (h5 : b ≤ 12) : PM l yX5_fewestFrom wsX5_fewestFrom ({ frames := 1, cells := 0, slots := 0, locals := 21 } : Room) D (gTys cI cL cZ cQ) [.ref a3, .int (nI n), .int (nI k), .long o, .int (nI us), .int (nI b)] [(a3, .inl (cL, 41, .inr (.inl F)))] (fun (_ : Unit) => True) (fun (_ : Unit) => some (.int (nI (ks_ff F n 0 k o us b)))) := by
  refine PM.ofG cX5_fewestFrom 8 (some .int) (by decide +kernel) rfl (Nat.le_of_ble_eq_true rfl) ?_
  intro p e s m below meth c B hr hlocks hname hK hN
  refine g_lload_n B dX5_fewestFrom_0 3 rfl ?_
  refine g_lconst (v := (0 : Int64)) B dX5_fewestFrom_1 rfl ?_
  refine g_lcmp (v := (lg_cmp o (0 : Int64))) B dX5_fewestFrom_2 rfl ?_
  refine g_lif_ne (tgt := 14) B dX5_fewestFrom_3 (by decide) (fun c1 => ?_) (fun c1 => ?_)
  · refine g_iload_n B dX5_fewestFrom_14 2 rfl ?_
    refine g_iload_n B dX5_fewestFrom_15 1 rfl ?_
    refine g_ncmp_ge (tgt := 34) B k n rfl rfl (by omega) (by omega) dX5_fewestFrom_16 (by decide) (fun c3 => ?_) (fun c3 => ?_)
    rotate_left; · exfalso; omega
    refine g_iload B dX5_fewestFrom_34 5 rfl ?_
    exact g_iret_p B hr rfl hlocks () (by rw [show ks_ff F n 0 k o us b = (if o = 0 then (if b < us then b else us) else b) from rfl, if_neg c1]) (trivial) dX5_fewestFrom_36
  · refine g_iload B dX5_fewestFrom_6 4 rfl ?_
    refine g_iload B dX5_fewestFrom_8 5 rfl ?_
    refine g_mmin (v := (if nI b < nI us then nI b else nI us)) B (List.mem_of_getElem? (i := 1) rfl) (List.mem_of_getElem? (i := 2) rfl) (List.mem_of_getElem? (i := 3) rfl) (List.mem_of_getElem? (i := 4) rfl) (by decide) (by decide) (by decide) (by decide) dX5_fewestFrom_10 (rfl) ?_
    refine g_eqi (y := nI (if b < us then b else us)) (ks_minN (by omega) (by omega)) ?_
    exact g_iret_p B hr rfl hlocks () (by rw [show ks_ff F n 0 k o us b = (if o = 0 then (if b < us then b else us) else b) from rfl, if_pos c1]) (trivial) dX5_fewestFrom_13

