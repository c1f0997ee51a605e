set_option maxHeartbeats 400000 in
set_option maxRecDepth 100000 in
theorem k_digestOfEdges (l : Launch) {D : va_G} {cI cL cZ cQ : ClassId} (hb : Nat) (hp : Nat) (ht : Nat) (hg : Nat) (ha : Nat) (hq : Nat) (P : Pg) (a0 : Nat) (a1 : Nat) (a2 : Nat) (a3 : Nat) (n : Nat) (S : Int64) (f0 : Nat → Int32) (f1 : Nat → Int32) (F : Nat → Int64) (t : Nat → Nat) (d0 : Int64) (hn : n ≤ 40) (hAO : ks_AO P t n f0 f1 F) (hS : ks_SK n S) : PM l yX5_digestOfEdges wsX5_digestOfEdges ({ frames := 3, cells := 0, slots := 0, locals := 70 } : Room) D (gTys cI cL cZ cQ) [.ref hb, .long d0] [(hb, .inr (5, [.ref hp, .ref ht, .ref hg, .ref ha, .ref hq])), (ha, .inr (0, [.ref a0, .ref a1, .ref a2, .ref a3, .int (nI n), .long S])), (a3, .inl (cL, 41, .inr (.inl F)))] (fun (_ : Unit) => True) (fun (_ : Unit) => some (.long (ks_fo (fun ed d => ks_fo (fun w d => ks_d1 d (ks_oe P t n S ed w)) d 3) d0 24))) := by
  refine PM.ofG cX5_digestOfEdges 7 (some .long) (by decide +kernel) rfl (Nat.le_of_ble_eq_true rfl) ?_
  intro p e s m below meth c B hr hlocks hname hK hN
  refine g_lload_n B dX5_digestOfEdges_0 1 rfl ?_
  refine g_lstore_n (lv' := [(0, .ref hb), (1, .long d0), (3, .long d0)]) B dX5_digestOfEdges_1 rfl (by decide) [1, 2, 0] rfl ?_
  refine g_iconst (v := (0 : Int32)) B dX5_digestOfEdges_2 (by decide) ?_
  refine g_istore (lv' := [(0, .ref hb), (1, .long d0), (3, .long d0), (5, .int (0 : Int32))]) B dX5_digestOfEdges_3 (by decide) [1, 2, 3, 0] rfl ?_
  refine g_loop (σ := Nat) (fun x9 => x9 ≤ 24) (fun x9 => 25 - x9) (fun x9 => 0) (fun x9 => 0) (fun x9 => [(hb, .inr (5, [.ref hp, .ref ht, .ref hg, .ref ha, .ref hq])), (ha, .inr (0, [.ref a0, .ref a1, .ref a2, .ref a3, .int (nI n), .long S])), (a3, .inl (cL, 41, .inr (.inl F)))]) (fun x9 => [(0, .ref hb), (1, .long d0), (3, .long (ks_fo (fun x9 d => ks_fo (fun w d => ks_d1 d (ks_oe P t n S x9 w)) d 3) d0 x9)), (5, .int (nI x9))]) (fun x9 hI ih5 => ?_) 0 (by (try dsimp only); omega) rfl rfl rfl rfl
  obtain ⟨ed, e9⟩ : ∃ z, z = x9 := ⟨_, rfl⟩; subst e9
  try dsimp only at hI ih5 ⊢
  refine g_iload B dX5_digestOfEdges_5 3 rfl ?_
  refine g_bipush (v := (24 : Int32)) B dX5_digestOfEdges_7 (by decide) ?_
  refine g_ncmp_ge (tgt := 49) B ed 24 rfl rfl (by omega) (by omega) dX5_digestOfEdges_9 (by decide) (fun c2 => ?_) (fun c2 => ?_)
  · obtain rfl : ed = 24 := by omega
    refine g_lload_n B dX5_digestOfEdges_49 2 rfl ?_
    exact g_lret_p B hr hlocks () (rfl) (trivial) dX5_digestOfEdges_50
  · refine g_iconst (v := (0 : Int32)) B dX5_digestOfEdges_12 (by decide) ?_
    refine g_istore (lv' := [(0, .ref hb), (1, .long d0), (3, .long (ks_fo (fun ed d => ks_fo (fun w d => ks_d1 d (ks_oe P t n S ed w)) d 3) d0 ed)), (5, .int (nI ed)), (6, .int (0 : Int32))]) B dX5_digestOfEdges_13 (by decide) [1, 2, 3, 4, 0] rfl ?_
    refine g_loop (σ := Nat) (fun x9 => x9 ≤ 3) (fun x9 => 4 - x9) (fun x9 => 0) (fun x9 => 0) (fun x9 => [(hb, .inr (5, [.ref hp, .ref ht, .ref hg, .ref ha, .ref hq])), (ha, .inr (0, [.ref a0, .ref a1, .ref a2, .ref a3, .int (nI n), .long S])), (a3, .inl (cL, 41, .inr (.inl F)))]) (fun x9 => [(0, .ref hb), (1, .long d0), (3, .long (ks_fo (fun x9 d => ks_d1 d (ks_oe P t n S ed x9)) (ks_fo (fun ed d => ks_fo (fun x9 d => ks_d1 d (ks_oe P t n S ed x9)) d 3) d0 ed) x9)), (5, .int (nI ed)), (6, .int (nI x9))]) (fun x9 hI ih15 => ?_) 0 (by (try dsimp only); omega) rfl rfl rfl rfl
    obtain ⟨w, e9⟩ : ∃ z, z = x9 := ⟨_, rfl⟩; subst e9
    try dsimp only at hI ih15 ⊢
    refine g_iload B dX5_digestOfEdges_15 4 rfl ?_
    refine g_iconst (v := (2 : Int32)) B dX5_digestOfEdges_17 (by decide) ?_
    refine g_ncmp_gt (tgt := 43) B w 2 rfl rfl (by omega) (by omega) dX5_digestOfEdges_18 (by decide) (fun c4 => ?_) (fun c4 => ?_)
    · obtain rfl : w = 3 := by omega
      refine g_eqlv (lv2 := [(0, .ref hb), (1, .long d0), (3, .long (ks_fo (fun ed d => ks_fo (fun w d => ks_d1 d (ks_oe P t n S ed w)) d 3) d0 (ed + 1))), (5, .int (nI ed)), (6, .int (nI 3))]) rfl ?_
      refine g_iinc (lv' := [(0, .ref hb), (1, .long d0), (3, .long (ks_fo (fun ed d => ks_fo (fun w d => ks_d1 d (ks_oe P t n S ed w)) d 3) d0 (ed + 1))), (5, .int (nI (ed + 1))), (6, .int (nI 3))]) B dX5_digestOfEdges_43 3 rfl (nI_1 ed) (by decide) [1, 2, 3, 0, 4] rfl ?_
      refine g_goto (tgt := 5) B dX5_digestOfEdges_46 (by decide) ?_
      exact g_pick [0, 1, 2, 3] rfl (ih5 (ed + 1) (by (try dsimp only); omega) (by (try dsimp only); omega))
    · refine g_lload_n B dX5_digestOfEdges_21 2 rfl ?_
      refine g_ldc2 (v := (31 : Int64)) B dX5_digestOfEdges_22 (List.mem_of_getElem? (i := 1) rfl) ?_
      refine g_lmul (v := ((ks_fo (fun w d => ks_d1 d (ks_oe P t n S ed w)) (ks_fo (fun ed d => ks_fo (fun w d => ks_d1 d (ks_oe P t n S ed w)) d 3) d0 ed) w) * (31 : Int64))) B dX5_digestOfEdges_25 (rfl) ?_
      refine g_aload_n B dX5_digestOfEdges_26 0 rfl ?_
      refine g_iload B dX5_digestOfEdges_27 3 rfl ?_
      refine g_iload B dX5_digestOfEdges_29 4 rfl ?_
      refine g_callP (g_runV (q0 := 0) (ci := 5) B hK rfl rfl (PM.met (k_ofEdge l (D := D) (cI := cI) (cL := cL) (cZ := cZ) (cQ := cQ) hb hp ht hg ha hq P a0 a1 a2 a3 n S f0 f1 F t ed w (by first | with_reducible assumption | omega | assumption) (by first | with_reducible assumption | omega | assumption) (by first | with_reducible assumption | omega | assumption) (by first | with_reducible assumption | omega | assumption) (by first | with_reducible assumption | omega | assumption))) (gPp.pre (av := [.ref hb, .int (nI ed), .int (nI w)]) (wc := [(hb, .inr (5, [.ref hp, .ref ht, .ref hg, .ref ha, .ref hq])), (ha, .inr (0, [.ref a0, .ref a1, .ref a2, .ref a3, .int (nI n), .long S])), (a3, .inl (cL, 41, .inr (.inl F)))]) hK hN [0, 1, 2] rfl (by decide)) gX5_digestOfEdges_X5_ofEdge rfl rfl kd_X5_ofEdge ⟨by decide, by decide⟩ (st := [.long ((ks_fo (fun w d => ks_d1 d (ks_oe P t n S ed w)) (ks_fo (fun ed d => ks_fo (fun w d => ks_d1 d (ks_oe P t n S ed w)) d 3) d0 ed) w) * (31 : Int64))]) rfl (Nat.le_of_ble_eq_true rfl) dX5_digestOfEdges_31 ⟨by decide, by decide⟩) (fun u hu => ?_)
      refine g_i2l (v := (ks_oe P t n S ed w).toInt64) B dX5_digestOfEdges_34 rfl ?_
      refine g_ladd (v := (((ks_fo (fun w d => ks_d1 d (ks_oe P t n S ed w)) (ks_fo (fun ed d => ks_fo (fun w d => ks_d1 d (ks_oe P t n S ed w)) d 3) d0 ed) w) * (31 : Int64)) + (ks_oe P t n S ed w).toInt64)) B dX5_digestOfEdges_35 (rfl) ?_
      refine g_lstore_n (lv' := [(0, .ref hb), (1, .long d0), (3, .long (((ks_fo (fun w d => ks_d1 d (ks_oe P t n S ed w)) (ks_fo (fun ed d => ks_fo (fun w d => ks_d1 d (ks_oe P t n S ed w)) d 3) d0 ed) w) * (31 : Int64)) + (ks_oe P t n S ed w).toInt64)), (5, .int (nI ed)), (6, .int (nI w))]) B dX5_digestOfEdges_36 rfl (by decide) [1, 2, 0, 3, 4] rfl ?_
      refine g_iinc (lv' := [(0, .ref hb), (1, .long d0), (3, .long (((ks_fo (fun w d => ks_d1 d (ks_oe P t n S ed w)) (ks_fo (fun ed d => ks_fo (fun w d => ks_d1 d (ks_oe P t n S ed w)) d 3) d0 ed) w) * (31 : Int64)) + (ks_oe P t n S ed w).toInt64)), (5, .int (nI ed)), (6, .int (nI (w + 1)))]) B dX5_digestOfEdges_37 4 rfl (nI_1 w) (by decide) [1, 2, 3, 4, 0] rfl ?_
      refine g_goto (tgt := 15) B dX5_digestOfEdges_40 (by decide) ?_
      exact ih15 (w + 1) (by (try dsimp only); omega) (by (try dsimp only); omega)

