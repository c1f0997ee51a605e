set_option maxHeartbeats 4000000 in
set_option maxRecDepth 100000 in
theorem k_nextCase (l : Launch) {D : va_G} {cI cL cZ cQ : ClassId} (hg : Nat) (g0 : Nat) (g1 : Nat) (g2 : Nat) (W : Wg) (sd : Nat) (hsd : sd < 10000) (hw : ks_WW W) : WM l yX1_nextCase wsX1_nextCase ({ frames := 2, cells := 0, slots := 0, locals := 44 } : Room) D (gTys cI cL cZ cQ) [.ref hg] [(hg, .inr (1, [.ref g0, .ref g1, .ref g2, .int (nI sd)])), (g0, .inl (cI, 4, .inl (fun i => nI (W.1 i)))), (g1, .inl (cI, 4, .inl (fun i => nI (W.2.1 i)))), (g2, .inl (cI, 4, .inl (fun i => nI (W.2.2 i))))] (fun (_ : Unit) => True) (fun (_ : Unit) => some (.int (nI ((ks_nc W sd).1)))) (fun (_ : Unit) => [(hg, .inr (1, [.ref g0, .ref g1, .ref g2, .int (nI ((ks_nc W sd).2))])), (g0, .inl (cI, 4, .inl (fun i => nI (W.1 i)))), (g1, .inl (cI, 4, .inl (fun i => nI (W.2.1 i)))), (g2, .inl (cI, 4, .inl (fun i => nI (W.2.2 i))))]) := by
  refine WM.ofG cX1_nextCase 3 (some .int) (by decide +kernel) rfl (Nat.le_of_ble_eq_true rfl) ?_
  intro p e s m below meth c A hA B hr hlocks hname hK hN
  refine g_iconst (v := (0 : Int32)) B dX1_nextCase_0 (by decide) ?_
  refine g_istore_n (lv' := [(0, .ref hg), (1, .int (0 : Int32))]) B dX1_nextCase_1 rfl (by decide) [1, 0] rfl ?_
  refine g_iconst (v := (0 : Int32)) B dX1_nextCase_2 (by decide) ?_
  refine g_istore_n (lv' := [(0, .ref hg), (1, .int (0 : Int32)), (2, .int (0 : Int32))]) B dX1_nextCase_3 rfl (by decide) [1, 2, 0] rfl ?_
  refine g_loop (σ := Nat) (fun x9 => x9 ≤ 4) (fun x9 => 5 - x9) (fun x9 => 0) (fun x9 => 0) (fun x9 => [(hg, .inr (1, [.ref g0, .ref g1, .ref g2, .int (nI ((ks_nk W sd x9).2))])), (g0, .inl (cI, 4, .inl (fun i => nI (W.1 i)))), (g1, .inl (cI, 4, .inl (fun i => nI (W.2.1 i)))), (g2, .inl (cI, 4, .inl (fun i => nI (W.2.2 i))))]) (fun x9 => [(0, .ref hg), (1, .int (nI ((ks_nk W sd x9).1))), (2, .int (nI x9))]) (fun x9 hI ih4 => ?_) 0 (by (try dsimp only); omega) rfl rfl rfl rfl
  obtain ⟨k, e9⟩ : ∃ z, z = x9 := ⟨_, rfl⟩; subst e9
  try dsimp only at hI ih4 ⊢
  have w1 := ks_nk_2 (W := W) hsd k
  refine g_iload_n B dX1_nextCase_4 2 rfl ?_
  refine g_iconst (v := (4 : Int32)) B dX1_nextCase_5 (by decide) ?_
  refine g_ncmp_ge (tgt := 26) B k 4 rfl rfl (by omega) (by omega) dX1_nextCase_6 (by decide) (fun c2 => ?_) (fun c2 => ?_)
  · refine g_iload_n B dX1_nextCase_26 1 rfl ?_
    obtain rfl : k = 4 := by omega
    exact g_iret_w B hr rfl hlocks () (rfl) (trivial) [0, 1, 2, 3] (by decide) rfl dX1_nextCase_27
  · refine g_iload_n B dX1_nextCase_9 1 rfl ?_
    refine g_bipush (v := (10 : Int32)) B dX1_nextCase_10 (by decide) ?_
    refine g_imul (v := nI (((ks_nk W sd k).1) * 10)) B dX1_nextCase_12 (pk_mul ((ks_nk W sd k).1) 10) ?_
    refine g_aload_n B dX1_nextCase_13 0 rfl ?_
    refine g_iload_n B dX1_nextCase_14 2 rfl ?_
    refine g_callW (w2 := (fun (z9 : Nat × Nat) => [(hg, .inr (1, [.ref g0, .ref g1, .ref g2, .int (nI z9.2)])), (g0, .inl (cI, 4, .inl (fun i => nI (W.1 i)))), (g1, .inl (cI, 4, .inl (fun i => nI (W.2.1 i)))), (g2, .inl (cI, 4, .inl (fun i => nI (W.2.2 i))))])) (g_runV (q0 := 0) (ci := 1) B hK rfl rfl (k_nextValue l (D := D) (cI := cI) (cL := cL) (cZ := cZ) (cQ := cQ) hg g0 g1 g2 W ((ks_nk W sd k).2) k (by first | with_reducible assumption | omega | assumption) (by first | with_reducible assumption | omega | assumption) (by first | with_reducible assumption | omega | assumption)) (gPw.pre (av := [.ref hg, .int (nI k)]) (wc := [(hg, .inr (1, [.ref g0, .ref g1, .ref g2, .int (nI ((ks_nk W sd k).2))])), (g0, .inl (cI, 4, .inl (fun i => nI (W.1 i)))), (g1, .inl (cI, 4, .inl (fun i => nI (W.2.1 i)))), (g2, .inl (cI, 4, .inl (fun i => nI (W.2.2 i))))]) hK hN [0, 1, 2, 3] rfl (by decide)) gX1_nextCase_X1_nextValue rfl rfl kd_X1_nextValue ⟨by decide, by decide⟩ (st := [.int (nI (((ks_nk W sd k).1) * 10))]) rfl (Nat.le_of_ble_eq_true rfl) dX1_nextCase_15 ⟨by decide, by decide⟩) hA (fun _ h => h) [0, 1, 2, 3] [] (wr := []) rfl rfl (by decide) (by decide) [0, 1, 2, 3] (by decide) (fun _ => rfl) (fun u hu => ?_)
    obtain ⟨v2_3, sd2_3⟩ := u
    try dsimp only at hu ⊢
    obtain ⟨e3_0, e3_1⟩ := hu
    subst e3_0
    subst e3_1
    refine g_iadd (v := nI ((((ks_nk W sd k).1) * 10) + ((ks_nv W (ks_nk W sd k).2 k).1))) B dX1_nextCase_18 (nI_add (((ks_nk W sd k).1) * 10) ((ks_nv W (ks_nk W sd k).2 k).1)) ?_
    refine g_istore_n (lv' := [(0, .ref hg), (1, .int (nI ((((ks_nk W sd k).1) * 10) + ((ks_nv W (ks_nk W sd k).2 k).1)))), (2, .int (nI k))]) B dX1_nextCase_19 rfl (by decide) [1, 0, 2] rfl ?_
    refine g_iinc (lv' := [(0, .ref hg), (1, .int (nI ((((ks_nk W sd k).1) * 10) + ((ks_nv W (ks_nk W sd k).2 k).1)))), (2, .int (nI (k + 1)))]) B dX1_nextCase_20 2 rfl (nI_1 k) (by decide) [1, 2, 0] rfl ?_
    refine g_goto (tgt := 4) B dX1_nextCase_23 (by decide) ?_
    exact ih4 (k + 1) (by (try dsimp only); omega) (by (try dsimp only); omega)

