set_option maxHeartbeats 400000 in
set_option maxRecDepth 100000 in
theorem k_smallest (l : Launch) {D : va_G} {cI cL cZ cQ : ClassId} (hb : Nat) (hp : Nat) (ht : Nat) (hg : Nat) (ha : Nat) (hq : Nat) (p0 : Nat) (p1 : Nat) (p2 : Nat) (p3 : Nat) (p4 : Nat) (P : Pg) (t0 : Nat) (fp : Nat → Int32) (ts : Int32) (tr : Int32) (tf : Int64) (ed : Nat) (ca : Nat) (hW : ks_WP P) (hca : ca < 10000) (he : ed < 24) : WM l yX5_smallest wsX5_smallest ({ frames := 3, cells := 0, slots := 0, locals := 69 } : Room) D (gTys cI cL cZ cQ) [.ref hb, .int (nI ed), .int (nI ca)] [(hb, .inr (5, [.ref hp, .ref ht, .ref hg, .ref ha, .ref hq])), (hp, .inr (2, [.ref p0, .ref p1, .ref p2, .ref p3, .ref p4])), (p0, .inl (cI, 12, .inl (fun i => nI (P.1 i)))), (p1, .inl (cI, 12, .inl (fun i => nI (P.2.1 i)))), (p2, .inl (cI, 12, .inl (fun i => nI (P.2.2.1 i)))), (p3, .inl (cI, 24, .inl (fun i => ks_tI (P.2.2.2.1 i)))), (p4, .inl (cZ, 12, .inl (fun i => bI (P.2.2.2.2 i)))), (ht, .inr (4, [.ref t0, .int ts, .int tr, .long tf])), (t0, .inl (cI, 30, .inl fp))] (fun (q : (Nat → Int32) × Int32 × Int32 × Int64 × Int32) => q.2.2.2.2 = -1 ∨ ∃ k, q.2.2.2.2 = nI k ∧ k < 10000 ∧ k / 100 = ca / 100 ∧ hasB (ks_fd P k) ed = true) (fun (q : (Nat → Int32) × Int32 × Int32 × Int64 × Int32) => some (.int q.2.2.2.2)) (fun (q : (Nat → Int32) × Int32 × Int32 × Int64 × Int32) => [(hb, .inr (5, [.ref hp, .ref ht, .ref hg, .ref ha, .ref hq])), (hp, .inr (2, [.ref p0, .ref p1, .ref p2, .ref p3, .ref p4])), (p0, .inl (cI, 12, .inl (fun i => nI (P.1 i)))), (p1, .inl (cI, 12, .inl (fun i => nI (P.2.1 i)))), (p2, .inl (cI, 12, .inl (fun i => nI (P.2.2.1 i)))), (p3, .inl (cI, 24, .inl (fun i => ks_tI (P.2.2.2.1 i)))), (p4, .inl (cZ, 12, .inl (fun i => bI (P.2.2.2.2 i)))), (ht, .inr (4, [.ref t0, .int q.2.1, .int q.2.2.1, .long q.2.2.2.1])), (t0, .inl (cI, 30, .inl q.1))]) := by
  refine WM.ofG cX5_smallest 5 (some .int) (by decide +kernel) rfl (Nat.le_of_ble_eq_true rfl) ?_
  intro p e s m below meth c A hA B hr hlocks hname hK hN
  refine g_iload_n B dX5_smallest_0 1 rfl ?_
  refine g_callP (g_runS B (PM.met (k_checkEdge_n l (D := D) (cI := cI) (cL := cL) (cZ := cZ) (cQ := cQ) ed (by first | with_reducible assumption | omega | assumption))) (gPp.pre (av := [.int (nI ed)]) (wc := []) hK hN [] rfl (by decide)) gX5_smallest_X5_checkEdge rfl kd_X5_checkEdge ⟨by decide, by decide⟩ (st := []) rfl (Nat.le_of_ble_eq_true rfl) dX5_smallest_1 ⟨by decide, by decide⟩) (fun u hu => ?_)
  refine g_iload_n B dX5_smallest_4 2 rfl ?_
  refine g_callP (g_runS B (PM.met (k_checkCase_n l (D := D) (cI := cI) (cL := cL) (cZ := cZ) (cQ := cQ) ca (by first | with_reducible assumption | omega | assumption))) (gPp.pre (av := [.int (nI ca)]) (wc := []) hK hN [] rfl (by decide)) gX5_smallest_X5_checkCase rfl kd_X5_checkCase ⟨by decide, by decide⟩ (st := []) rfl (Nat.le_of_ble_eq_true rfl) dX5_smallest_5 ⟨by decide, by decide⟩) (fun u hu => ?_)
  refine g_iload_n B dX5_smallest_8 2 rfl ?_
  refine g_iload_n B dX5_smallest_9 2 rfl ?_
  refine g_bipush (v := (100 : Int32)) B dX5_smallest_10 (by decide) ?_
  refine g_irem (v := nI (ca % 100)) B dX5_smallest_12 (by decide) (pk_rem (a := ca) (d := 100) (by omega) (by decide) (by decide)) ?_
  refine g_isub (v := nI (ca - (ca % 100))) B dX5_smallest_13 (pk_sub (a := ca) (b := ca % 100) (by omega)) ?_
  refine g_istore_n (lv' := [(0, .ref hb), (1, .int (nI ed)), (2, .int (nI ca)), (3, .int (nI (ca - (ca % 100))))]) B dX5_smallest_14 rfl (by decide) [1, 2, 3, 0] rfl ?_
  refine g_iload_n B dX5_smallest_15 3 rfl ?_
  refine g_istore (lv' := [(0, .ref hb), (1, .int (nI ed)), (2, .int (nI ca)), (3, .int (nI (ca - (ca % 100)))), (4, .int (nI (ca - (ca % 100))))]) B dX5_smallest_16 (by decide) [1, 2, 3, 4, 0] rfl ?_
  refine g_loop (σ := Nat × (Nat → Int32) × Int32 × Int32 × Int64) (fun x9 => ca - ca % 100 ≤ x9.1 ∧ x9.1 ≤ ca - ca % 100 + 100) (fun x9 => ca - ca % 100 + 101 - x9.1) (fun x9 => 0) (fun x9 => 0) (fun x9 => [(hb, .inr (5, [.ref hp, .ref ht, .ref hg, .ref ha, .ref hq])), (hp, .inr (2, [.ref p0, .ref p1, .ref p2, .ref p3, .ref p4])), (p0, .inl (cI, 12, .inl (fun i => nI (P.1 i)))), (p1, .inl (cI, 12, .inl (fun i => nI (P.2.1 i)))), (p2, .inl (cI, 12, .inl (fun i => nI (P.2.2.1 i)))), (p3, .inl (cI, 24, .inl (fun i => ks_tI (P.2.2.2.1 i)))), (p4, .inl (cZ, 12, .inl (fun i => bI (P.2.2.2.2 i)))), (ht, .inr (4, [.ref t0, .int x9.2.2.1, .int x9.2.2.2.1, .long x9.2.2.2.2])), (t0, .inl (cI, 30, .inl x9.2.1))]) (fun x9 => [(0, .ref hb), (1, .int (nI ed)), (2, .int (nI ca)), (3, .int (nI (ca - ca % 100))), (4, .int (nI x9.1))]) (fun x9 hI ih18 => ?_) (ca - ca % 100, fp, ts, tr, tf) (by (try dsimp only); omega) rfl rfl (by (try dsimp only) <;> rfl) (by (try dsimp only) <;> rfl)
  obtain ⟨k, fpx, tsl, trl, tfl⟩ := x9
  try dsimp only at hI ih18 ⊢
  refine g_iload B dX5_smallest_18 4 rfl ?_
  refine g_iload_n B dX5_smallest_20 3 rfl ?_
  refine g_bipush (v := (100 : Int32)) B dX5_smallest_21 (by decide) ?_
  refine g_iadd (v := nI ((ca - ca % 100) + 100)) B dX5_smallest_23 (nI_add (ca - ca % 100) 100) ?_
  refine g_ncmp_ge (tgt := 63) B k ((ca - ca % 100) + 100) rfl rfl (by omega) (by omega) dX5_smallest_24 (by decide) (fun c4 => ?_) (fun c4 => ?_)
  · refine g_iconst (v := (-1 : Int32)) B dX5_smallest_63 (by decide) ?_
    exact g_iret_w B hr rfl hlocks (fpx, tsl, trl, tfl, (-1 : Int32)) (rfl) (by (try dsimp only); exact Or.inl rfl) [0, 1, 2, 3, 4, 5, 6, 7, 8] (by decide) (by (try dsimp only) <;> rfl) dX5_smallest_64
  · refine g_aload_n B dX5_smallest_27 0 rfl ?_
    refine g_get (C := RX5) (T := TX5) (N := 5) (ci := 5) B hK hin_X5_smallest_RX5 0 rfl rfl 0 (by decide) (List.mem_of_getElem? (i := 1) rfl) rfl (v := .ref hp) rfl dX5_smallest_28 ?_
    refine g_iload B dX5_smallest_31 4 rfl ?_
    refine g_aload_n B dX5_smallest_33 0 rfl ?_
    refine g_get (C := RX5) (T := TX5) (N := 5) (ci := 5) B hK hin_X5_smallest_RX5 0 rfl rfl 1 (by decide) (List.mem_of_getElem? (i := 2) rfl) rfl (v := .ref ht) rfl dX5_smallest_34 ?_
    refine g_callW (w2 := (fun (fp2_5 : Nat → Int32) => [(hb, .inr (5, [.ref hp, .ref ht, .ref hg, .ref ha, .ref hq])), (hp, .inr (2, [.ref p0, .ref p1, .ref p2, .ref p3, .ref p4])), (p0, .inl (cI, 12, .inl (fun i => nI (P.1 i)))), (p1, .inl (cI, 12, .inl (fun i => nI (P.2.1 i)))), (p2, .inl (cI, 12, .inl (fun i => nI (P.2.2.1 i)))), (p3, .inl (cI, 24, .inl (fun i => ks_tI (P.2.2.2.1 i)))), (p4, .inl (cZ, 12, .inl (fun i => bI (P.2.2.2.2 i)))), (ht, .inr (4, [.ref t0, .int (nI (ks_st P k)), .int (nI (ks_rs P k)), .long (ks_fd P k)])), (t0, .inl (cI, 30, .inl fp2_5))])) (g_runV (q0 := 1) (ci := 2) B hK rfl rfl (k_follow l (D := D) (cI := cI) (cL := cL) (cZ := cZ) (cQ := cQ) hp p0 p1 p2 p3 p4 P ht t0 fpx tsl trl tfl k (by first | with_reducible assumption | omega | assumption) (by first | with_reducible assumption | omega | assumption)) (gPw.pre (av := [.ref hp, .int (nI k), .ref ht]) (wc := [(hp, .inr (2, [.ref p0, .ref p1, .ref p2, .ref p3, .ref p4])), (p0, .inl (cI, 12, .inl (fun i => nI (P.1 i)))), (p1, .inl (cI, 12, .inl (fun i => nI (P.2.1 i)))), (p2, .inl (cI, 12, .inl (fun i => nI (P.2.2.1 i)))), (p3, .inl (cI, 24, .inl (fun i => ks_tI (P.2.2.2.1 i)))), (p4, .inl (cZ, 12, .inl (fun i => bI (P.2.2.2.2 i)))), (ht, .inr (4, [.ref t0, .int tsl, .int trl, .long tfl])), (t0, .inl (cI, 30, .inl fpx))]) hK hN [1, 2, 3, 4, 5, 6, 7, 8] rfl (by decide)) gX5_smallest_X2_follow rfl rfl kd_X2_follow ⟨by decide, by decide⟩ (st := []) rfl (Nat.le_of_ble_eq_true rfl) dX5_smallest_37 ⟨by decide, by decide⟩) hA (fun _ h => h) [1, 2, 3, 4, 5, 6, 7, 8] [0] (wr := [(hb, .inr (5, [.ref hp, .ref ht, .ref hg, .ref ha, .ref hq]))]) rfl rfl (by decide) (by decide) [0, 1, 2, 3, 4, 5, 6, 7, 8] (by decide) (fun _ => rfl) (fun u hu => ?_)
    obtain ⟨fp2_5, e9⟩ : ∃ z, z = u := ⟨_, rfl⟩; subst e9
    try dsimp only at hu ⊢
    have hu5 := hu
    refine g_aload_n B dX5_smallest_40 0 rfl ?_
    refine g_get (C := RX5) (T := TX5) (N := 5) (ci := 5) B hK hin_X5_smallest_RX5 0 rfl rfl 1 (by decide) (List.mem_of_getElem? (i := 2) rfl) rfl (v := .ref ht) rfl dX5_smallest_41 ?_
    refine g_getN (C := RX4) (T := TX4) (N := 4) (ci := 4) B hK hin_X5_smallest_RX4 7 rfl rfl 3 (by decide) hN 0 rfl rfl (v := .long (ks_fd P k)) rfl dX5_smallest_44 ?_
    refine g_iload_n B dX5_smallest_47 1 rfl ?_
    refine g_callP (g_runS B (PM.met (k_contains l (D := D) (cI := cI) (cL := cL) (cZ := cZ) (cQ := cQ) (ks_fd P k) ed (by first | with_reducible assumption | omega | assumption))) (gPp.pre (av := [.long (ks_fd P k), .int (nI ed)]) (wc := []) hK hN [] rfl (by decide)) gX5_smallest_X5_contains rfl kd_X5_contains ⟨by decide, by decide⟩ (st := []) rfl (Nat.le_of_ble_eq_true rfl) dX5_smallest_48 ⟨by decide, by decide⟩) (fun u hu => ?_)
    refine g_bif_eq (tgt := 57) B dX5_smallest_51 (by decide) (fun c7 => ?_) (fun c7 => ?_)
    · refine g_iinc (lv' := [(0, .ref hb), (1, .int (nI ed)), (2, .int (nI ca)), (3, .int (nI (ca - ca % 100))), (4, .int (nI (k + 1)))]) B dX5_smallest_57 4 rfl (nI_1 k) (by decide) [1, 2, 3, 4, 0] rfl ?_
      refine g_goto (tgt := 18) B dX5_smallest_60 (by decide) ?_
      have ihx8 := ih18 (k + 1, fp2_5, nI (ks_st P k), nI (ks_rs P k), (ks_fd P k))
      try dsimp only at ihx8
      exact ihx8 (by (try dsimp only); omega) (by (try dsimp only); omega)
    · refine g_iload B dX5_smallest_54 4 rfl ?_
      exact g_iret_w B hr rfl hlocks (fp2_5, nI (ks_st P k), nI (ks_rs P k), (ks_fd P k), nI k) (rfl) (by (try dsimp only); exact Or.inr ⟨k, rfl, by omega, by omega, c7⟩) [0, 1, 2, 3, 4, 5, 6, 7, 8] (by decide) (by (try dsimp only) <;> rfl) dX5_smallest_56

