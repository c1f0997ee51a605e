/-! the class on a fresh object: ahead, digest -/
theorem kd_X5_ahead : yX5_ahead.cls ≠ "java/lang/invoke/MethodHandle" ∧ yX5_ahead.cls ≠ "java/lang/invoke/VarHandle" ∧ (parseMethodDescriptor yX5_ahead.desc).map (fun d => d.parameters.length) = some 1 := by decide +kernel
theorem kd_X5_covers : yX5_covers.cls ≠ "java/lang/invoke/MethodHandle" ∧ yX5_covers.cls ≠ "java/lang/invoke/VarHandle" ∧ (parseMethodDescriptor yX5_covers.desc).map (fun d => d.parameters.length) = some 1 := by decide +kernel
theorem kd_X5_digestOfEdges : yX5_digestOfEdges.cls ≠ "java/lang/invoke/MethodHandle" ∧ yX5_digestOfEdges.cls ≠ "java/lang/invoke/VarHandle" ∧ (parseMethodDescriptor yX5_digestOfEdges.desc).map (fun d => d.parameters.length) = some 1 := by decide +kernel
theorem kd_X5_digestOfKnown : yX5_digestOfKnown.cls ≠ "java/lang/invoke/MethodHandle" ∧ yX5_digestOfKnown.cls ≠ "java/lang/invoke/VarHandle" ∧ (parseMethodDescriptor yX5_digestOfKnown.desc).map (fun d => d.parameters.length) = some 1 := by decide +kernel
theorem kd_X5_fewest : yX5_fewest.cls ≠ "java/lang/invoke/MethodHandle" ∧ yX5_fewest.cls ≠ "java/lang/invoke/VarHandle" ∧ (parseMethodDescriptor yX5_fewest.desc).map (fun d => d.parameters.length) = some 0 := by decide +kernel
theorem kd_X5_many : yX5_many.cls ≠ "java/lang/invoke/MethodHandle" ∧ yX5_many.cls ≠ "java/lang/invoke/VarHandle" ∧ (parseMethodDescriptor yX5_many.desc).map (fun d => d.parameters.length) = some 1 := by decide +kernel
theorem kd_X5_ofEdge : yX5_ofEdge.cls ≠ "java/lang/invoke/MethodHandle" ∧ yX5_ofEdge.cls ≠ "java/lang/invoke/VarHandle" ∧ (parseMethodDescriptor yX5_ofEdge.desc).map (fun d => d.parameters.length) = some 2 := by decide +kernel
theorem kd_X5_outcomeOf : yX5_outcomeOf.cls ≠ "java/lang/invoke/MethodHandle" ∧ yX5_outcomeOf.cls ≠ "java/lang/invoke/VarHandle" ∧ (parseMethodDescriptor yX5_outcomeOf.desc).map (fun d => d.parameters.length) = some 1 := by decide +kernel
theorem kd_X5_run : yX5_run.cls ≠ "java/lang/invoke/MethodHandle" ∧ yX5_run.cls ≠ "java/lang/invoke/VarHandle" ∧ (parseMethodDescriptor yX5_run.desc).map (fun d => d.parameters.length) = some 1 := by decide +kernel
theorem kd_X5_wouldDrop : yX5_wouldDrop.cls ≠ "java/lang/invoke/MethodHandle" ∧ yX5_wouldDrop.cls ≠ "java/lang/invoke/VarHandle" ∧ (parseMethodDescriptor yX5_wouldDrop.desc).map (fun d => d.parameters.length) = some 1 := by decide +kernel
theorem hin_X5_ahead_RX1 : ∀ z ∈ u_ws RX1 TX1 4, z ∈ wsX5_ahead := by decide +kernel
theorem hin_X5_ahead_RX5 : ∀ z ∈ u_ws RX5 TX5 5, z ∈ wsX5_ahead := by decide +kernel
theorem hin_X5_digestOfKnown_RX0 : ∀ z ∈ u_ws RX0 TX0 6, z ∈ wsX5_digestOfKnown := by decide +kernel
theorem hin_X5_digestOfKnown_RX5 : ∀ z ∈ u_ws RX5 TX5 5, z ∈ wsX5_digestOfKnown := by decide +kernel
theorem hin_X5_digest_RX3 : ∀ z ∈ u_ws RX3 TX3 4, z ∈ wsX5_digest := by decide +kernel
theorem hin_X5_digest_RX5 : ∀ z ∈ u_ws RX5 TX5 5, z ∈ wsX5_digest := by decide +kernel
set_option maxHeartbeats 4000000 in
set_option maxRecDepth 100000 in
theorem k_ahead_v (l : Launch) {D : va_G} {cI cL cZ : ClassId} (hb : Nat) (hp : Nat) (ht : Nat) (hg : Nat) (ha : Nat) (hq : Nat) (p0 : Nat) (p1 : Nat) (p2 : Nat) (p3 : Nat) (p4 : Nat) (t0 : Nat) (fp : Nat → Int32) (ts : Int32) (tr : Int32) (tf : Int64) (g0 : Nat) (g1 : Nat) (g2 : Nat) (sd : Nat) (a9 : Nat) (hs : sd < 10000) (h1 : 0 < a9) (h2 : a9 ≤ 50) : WM l yX5_ahead wsX5_ahead ({ frames := 4, cells := 0, slots := 0, locals := 90 } : Room) D (gTys cI cL cZ) [.ref hb, .int (nI a9)] [(hb, .inr (5, [.ref hp, .ref ht, .ref hg, .ref ha, .ref hq])), (hp, .inr (2, [.ref p0, .ref p1, .ref p2, .ref p3, .ref p4])), (p0, .inl (cI, 12, .inl (fun _ => (0 : Int32)))), (p1, .inl (cI, 12, .inl (fun _ => (0 : Int32)))), (p2, .inl (cI, 12, .inl (fun _ => (0 : Int32)))), (p3, .inl (cI, 24, .inl (fun _ => (-1 : Int32)))), (p4, .inl (cZ, 12, .inl (fun _ => (0 : Int32)))), (ht, .inr (4, [.ref t0, .int ts, .int tr, .long tf])), (t0, .inl (cI, 30, .inl fp)), (hg, .inr (1, [.ref g0, .ref g1, .ref g2, .int (nI sd)])), (g0, .inl (cI, 4, .inl (fun _ => (1 : Int32)))), (g1, .inl (cI, 4, .inl (fun _ => (1 : Int32)))), (g2, .inl (cI, 4, .inl (fun _ => (1 : Int32))))] (fun (q : (Nat → Int32) × Int32 × Int32 × Int64) => True) (fun (q : (Nat → Int32) × Int32 × Int32 × Int64) => some (.int (1 : Int32))) (fun (q : (Nat → Int32) × Int32 × Int32 × Int64) => [(hb, .inr (5, [.ref hp, .ref ht, .ref hg, .ref ha, .ref hq])), (hp, .inr (2, [.ref p0, .ref p1, .ref p2, .ref p3, .ref p4])), (p0, .inl (cI, 12, .inl (fun _ => (0 : Int32)))), (p1, .inl (cI, 12, .inl (fun _ => (0 : Int32)))), (p2, .inl (cI, 12, .inl (fun _ => (0 : Int32)))), (p3, .inl (cI, 24, .inl (fun _ => (-1 : Int32)))), (p4, .inl (cZ, 12, .inl (fun _ => (0 : Int32)))), (ht, .inr (4, [.ref t0, .int q.2.1, .int q.2.2.1, .long q.2.2.2])), (t0, .inl (cI, 30, .inl q.1)), (hg, .inr (1, [.ref g0, .ref g1, .ref g2, .int (nI sd)])), (g0, .inl (cI, 4, .inl (fun _ => (1 : Int32)))), (g1, .inl (cI, 4, .inl (fun _ => (1 : Int32)))), (g2, .inl (cI, 4, .inl (fun _ => (1 : Int32))))]) := by
  refine WM.ofG cX5_ahead 6 (some .int) (by decide +kernel) rfl (Nat.le_of_ble_eq_true rfl) ?_
  intro p e s m below meth c A hA B hr hlocks hname hK hN
  refine g_iload_n B dX5_ahead_0 1 rfl ?_
  refine g_iconst (v := (1 : Int32)) B dX5_ahead_1 (by decide) ?_
  refine g_ncmp_lt (tgt := 11) B a9 1 rfl rfl (by omega) (by omega) dX5_ahead_2 (by decide) (fun c1 => ?_) (fun c1 => ?_)
  · exfalso; omega
  refine g_iload_n B dX5_ahead_5 1 rfl ?_
  refine g_bipush (v := (50 : Int32)) B dX5_ahead_6 (by decide) ?_
  refine g_ncmp_le (tgt := 22) B a9 50 rfl rfl (by omega) (by omega) dX5_ahead_8 (by decide) (fun c2 => ?_) (fun c2 => ?_)
  rotate_left; · exfalso; omega
  refine g_aload_n B dX5_ahead_22 0 rfl ?_
  refine g_get (C := RX5) (T := TX5) (N := 5) (ci := 5) B hK hin_X5_ahead_RX5 0 rfl rfl 2 (by decide) (List.mem_of_getElem? (i := 3) rfl) rfl (v := .ref hg) rfl dX5_ahead_23 ?_
  refine g_getN (C := RX1) (T := TX1) (N := 4) (ci := 1) B hK hin_X5_ahead_RX1 9 rfl rfl 3 (by decide) hN 1 rfl rfl (v := .int (nI sd)) rfl dX5_ahead_26 ?_
  refine g_istore_n (lv' := [(0, .ref hb), (1, .int (nI a9)), (2, .int (nI sd))]) B dX5_ahead_29 rfl (by decide) [1, 2, 0] rfl ?_
  refine g_lconst (v := (0 : Int64)) B dX5_ahead_30 rfl ?_
  refine g_lstore_n (lv' := [(0, .ref hb), (1, .int (nI a9)), (2, .int (nI sd)), (3, .long (0 : Int64))]) B dX5_ahead_31 rfl (by decide) [1, 2, 3, 0] rfl ?_
  refine g_iconst (v := (0 : Int32)) B dX5_ahead_32 (by decide) ?_
  refine g_istore (lv' := [(0, .ref hb), (1, .int (nI a9)), (2, .int (nI sd)), (3, .long (0 : Int64)), (5, .int (0 : Int32))]) B dX5_ahead_33 (by decide) [1, 2, 3, 4, 0] rfl ?_
  refine g_loop (σ := Nat × Nat × Int64 × (Nat → Int32) × Int32 × Int32 × Int64) (fun x9 => x9.1 ≤ a9 ∧ x9.2.1 < 10000 ∧ ((x9.1 = 0 ∧ x9.2.2.1 = 0) ∨ (0 < x9.1 ∧ x9.2.2.1 = 2))) (fun x9 => a9 + 1 - x9.1) (fun x9 => 0) (fun x9 => 0) (fun x9 => [(hb, .inr (5, [.ref hp, .ref ht, .ref hg, .ref ha, .ref hq])), (hp, .inr (2, [.ref p0, .ref p1, .ref p2, .ref p3, .ref p4])), (p0, .inl (cI, 12, .inl (fun _ => (0 : Int32)))), (p1, .inl (cI, 12, .inl (fun _ => (0 : Int32)))), (p2, .inl (cI, 12, .inl (fun _ => (0 : Int32)))), (p3, .inl (cI, 24, .inl (fun _ => (-1 : Int32)))), (p4, .inl (cZ, 12, .inl (fun _ => (0 : Int32)))), (ht, .inr (4, [.ref t0, .int x9.2.2.2.2.1, .int x9.2.2.2.2.2.1, .long x9.2.2.2.2.2.2])), (t0, .inl (cI, 30, .inl x9.2.2.2.1)), (hg, .inr (1, [.ref g0, .ref g1, .ref g2, .int (nI x9.2.1)])), (g0, .inl (cI, 4, .inl (fun _ => (1 : Int32)))), (g1, .inl (cI, 4, .inl (fun _ => (1 : Int32)))), (g2, .inl (cI, 4, .inl (fun _ => (1 : Int32))))]) (fun x9 => [(0, .ref hb), (1, .int (nI a9)), (2, .int (nI sd)), (3, .long x9.2.2.1), (5, .int (nI x9.1))]) (fun x9 hI ih35 => ?_) (0, sd, 0, fp, ts, tr, tf) (by exact ⟨by omega, hs, Or.inl ⟨rfl, rfl⟩⟩) rfl rfl rfl rfl
  obtain ⟨k, sd1, sn, fp1, ts1, tr1, tf1⟩ := x9
  try dsimp only at hI ih35 ⊢
  obtain ⟨i1, i2, i3⟩ := hI
  refine g_iload B dX5_ahead_35 4 rfl ?_
  refine g_iload_n B dX5_ahead_37 1 rfl ?_
  refine g_ncmp_ge (tgt := 67) B k a9 rfl rfl (by omega) (by omega) dX5_ahead_38 (by decide) (fun c3 => ?_) (fun c3 => ?_)
  · refine g_aload_n B dX5_ahead_67 0 rfl ?_
    refine g_get (C := RX5) (T := TX5) (N := 5) (ci := 5) B hK hin_X5_ahead_RX5 0 rfl rfl 2 (by decide) (List.mem_of_getElem? (i := 3) rfl) rfl (v := .ref hg) rfl dX5_ahead_68 ?_
    refine g_iload_n B dX5_ahead_71 2 rfl ?_
    refine g_putN (C := RX1) (T := TX1) (N := 4) (ci := 1) B hK hin_X5_ahead_RX1 9 rfl rfl 3 (by decide) tyX1 tyX1_ok nmX1 hN 1 rfl rfl rfl (ty := .int) (v := .int (nI sd)) (by decide +kernel) rfl rfl (Nat.le_of_ble_eq_true rfl) (w2 := [(hb, .inr (5, [.ref hp, .ref ht, .ref hg, .ref ha, .ref hq])), (hp, .inr (2, [.ref p0, .ref p1, .ref p2, .ref p3, .ref p4])), (p0, .inl (cI, 12, .inl (fun _ => (0 : Int32)))), (p1, .inl (cI, 12, .inl (fun _ => (0 : Int32)))), (p2, .inl (cI, 12, .inl (fun _ => (0 : Int32)))), (p3, .inl (cI, 24, .inl (fun _ => (-1 : Int32)))), (p4, .inl (cZ, 12, .inl (fun _ => (0 : Int32)))), (ht, .inr (4, [.ref t0, .int ts1, .int tr1, .long tf1])), (t0, .inl (cI, 30, .inl fp1)), (hg, .inr (1, [.ref g0, .ref g1, .ref g2, .int (nI sd)])), (g0, .inl (cI, 4, .inl (fun _ => (1 : Int32)))), (g1, .inl (cI, 4, .inl (fun _ => (1 : Int32)))), (g2, .inl (cI, 4, .inl (fun _ => (1 : Int32))))]) rfl (fun _ h => h) dX5_ahead_72 ?_
    refine g_lload_n B dX5_ahead_75 3 rfl ?_
    refine g_eql (y := 2) (by rcases i3 with ⟨q1, _⟩ | ⟨_, q2⟩; omega; exact q2) ?_
    refine g_callP (g_runS B (PM.met (c_bitCount_2 l (D := D) (cI := cI) (cL := cL) (cZ := cZ)  )) (gPp.pre (av := [.long (2 : Int64)]) (wc := []) hK hN [] rfl (by decide)) gX5_ahead_J13_bitCount_95d88 rfl kd_J13_bitCount_95d88 ⟨by decide, by decide⟩ (st := []) rfl (Nat.le_of_ble_eq_true rfl) dX5_ahead_76 ⟨by decide, by decide⟩) (fun u hu => ?_)
    exact g_iret_w B hr rfl hlocks (fp1, ts1, tr1, tf1) (rfl) (trivial) [0, 1, 2, 3, 4, 5, 6, 7, 8, 9, 10, 11, 12] (by decide) rfl dX5_ahead_79
  · refine g_lload_n B dX5_ahead_41 3 rfl ?_
    refine g_aload_n B dX5_ahead_42 0 rfl ?_
    refine g_aload_n B dX5_ahead_43 0 rfl ?_
    refine g_get (C := RX5) (T := TX5) (N := 5) (ci := 5) B hK hin_X5_ahead_RX5 0 rfl rfl 2 (by decide) (List.mem_of_getElem? (i := 3) rfl) rfl (v := .ref hg) rfl dX5_ahead_44 ?_
    refine g_callW (w2 := (fun (z9 : Nat × Nat) => [(hb, .inr (5, [.ref hp, .ref ht, .ref hg, .ref ha, .ref hq])), (hp, .inr (2, [.ref p0, .ref p1, .ref p2, .ref p3, .ref p4])), (p0, .inl (cI, 12, .inl (fun _ => (0 : Int32)))), (p1, .inl (cI, 12, .inl (fun _ => (0 : Int32)))), (p2, .inl (cI, 12, .inl (fun _ => (0 : Int32)))), (p3, .inl (cI, 24, .inl (fun _ => (-1 : Int32)))), (p4, .inl (cZ, 12, .inl (fun _ => (0 : Int32)))), (ht, .inr (4, [.ref t0, .int ts1, .int tr1, .long tf1])), (t0, .inl (cI, 30, .inl fp1)), (hg, .inr (1, [.ref g0, .ref g1, .ref g2, .int (nI z9.2)])), (g0, .inl (cI, 4, .inl (fun _ => (1 : Int32)))), (g1, .inl (cI, 4, .inl (fun _ => (1 : Int32)))), (g2, .inl (cI, 4, .inl (fun _ => (1 : Int32))))])) (g_runV (q0 := 9) (ci := 1) B hK rfl rfl (k_nextCase_n l (D := D) (cI := cI) (cL := cL) (cZ := cZ) hg g0 g1 g2 sd1 (by omega)) (gPw.pre (av := [.ref hg]) (wc := [(hg, .inr (1, [.ref g0, .ref g1, .ref g2, .int (nI sd1)])), (g0, .inl (cI, 4, .inl (fun _ => (1 : Int32)))), (g1, .inl (cI, 4, .inl (fun _ => (1 : Int32)))), (g2, .inl (cI, 4, .inl (fun _ => (1 : Int32))))]) hK hN [9, 10, 11, 12] rfl (by decide)) gX5_ahead_X1_nextCase rfl rfl kd_X1_nextCase ⟨by decide, by decide⟩ (st := [.ref hb, .long sn]) rfl (Nat.le_of_ble_eq_true rfl) dX5_ahead_47 ⟨by decide, by decide⟩) hA (fun _ h => h) [9, 10, 11, 12] [0, 1, 2, 3, 4, 5, 6, 7, 8] (wr := [(hb, .inr (5, [.ref hp, .ref ht, .ref hg, .ref ha, .ref hq])), (hp, .inr (2, [.ref p0, .ref p1, .ref p2, .ref p3, .ref p4])), (p0, .inl (cI, 12, .inl (fun _ => (0 : Int32)))), (p1, .inl (cI, 12, .inl (fun _ => (0 : Int32)))), (p2, .inl (cI, 12, .inl (fun _ => (0 : Int32)))), (p3, .inl (cI, 24, .inl (fun _ => (-1 : Int32)))), (p4, .inl (cZ, 12, .inl (fun _ => (0 : Int32)))), (ht, .inr (4, [.ref t0, .int ts1, .int tr1, .long tf1])), (t0, .inl (cI, 30, .inl fp1))]) rfl rfl (by decide) (by decide) [0, 1, 2, 3, 4, 5, 6, 7, 8, 9, 10, 11, 12] (by decide) (fun _ => rfl) (fun u hu => ?_)
    obtain ⟨c2_5, sd2_5⟩ := u
    try dsimp only at hu ⊢
    have hu5 := hu
    refine g_callW (w2 := (fun (fp2_6 : Nat → Int32) => [(hb, .inr (5, [.ref hp, .ref ht, .ref hg, .ref ha, .ref hq])), (hp, .inr (2, [.ref p0, .ref p1, .ref p2, .ref p3, .ref p4])), (p0, .inl (cI, 12, .inl (fun _ => (0 : Int32)))), (p1, .inl (cI, 12, .inl (fun _ => (0 : Int32)))), (p2, .inl (cI, 12, .inl (fun _ => (0 : Int32)))), (p3, .inl (cI, 24, .inl (fun _ => (-1 : Int32)))), (p4, .inl (cZ, 12, .inl (fun _ => (0 : Int32)))), (ht, .inr (4, [.ref t0, .int (1 : Int32), .int (1 : Int32), .long (2 : Int64)])), (t0, .inl (cI, 30, .inl fp2_6)), (hg, .inr (1, [.ref g0, .ref g1, .ref g2, .int (nI sd2_5)])), (g0, .inl (cI, 4, .inl (fun _ => (1 : Int32)))), (g1, .inl (cI, 4, .inl (fun _ => (1 : Int32)))), (g2, .inl (cI, 4, .inl (fun _ => (1 : Int32))))])) (g_runV (q0 := 0) (ci := 5) B hK rfl rfl (k_resultOf l (D := D) (cI := cI) (cL := cL) (cZ := cZ) hb hg ha hq hp p0 p1 p2 p3 p4 ht t0 fp1 ts1 tr1 tf1 c2_5 (by omega)) (gPw.pre (av := [.ref hb, .int (nI c2_5)]) (wc := [(hb, .inr (5, [.ref hp, .ref ht, .ref hg, .ref ha, .ref hq])), (hp, .inr (2, [.ref p0, .ref p1, .ref p2, .ref p3, .ref p4])), (p0, .inl (cI, 12, .inl (fun _ => (0 : Int32)))), (p1, .inl (cI, 12, .inl (fun _ => (0 : Int32)))), (p2, .inl (cI, 12, .inl (fun _ => (0 : Int32)))), (p3, .inl (cI, 24, .inl (fun _ => (-1 : Int32)))), (p4, .inl (cZ, 12, .inl (fun _ => (0 : Int32)))), (ht, .inr (4, [.ref t0, .int ts1, .int tr1, .long tf1])), (t0, .inl (cI, 30, .inl fp1))]) hK hN [0, 1, 2, 3, 4, 5, 6, 7, 8] rfl (by decide)) gX5_ahead_X5_resultOf rfl rfl kd_X5_resultOf ⟨by decide, by decide⟩ (st := [.long sn]) rfl (Nat.le_of_ble_eq_true rfl) dX5_ahead_50 ⟨by decide, by decide⟩) hA (fun _ h => h) [0, 1, 2, 3, 4, 5, 6, 7, 8] [9, 10, 11, 12] (wr := [(hg, .inr (1, [.ref g0, .ref g1, .ref g2, .int (nI sd2_5)])), (g0, .inl (cI, 4, .inl (fun _ => (1 : Int32)))), (g1, .inl (cI, 4, .inl (fun _ => (1 : Int32)))), (g2, .inl (cI, 4, .inl (fun _ => (1 : Int32))))]) rfl rfl (by decide) (by decide) [4, 5, 6, 7, 8, 9, 10, 11, 12, 0, 1, 2, 3] (by decide) (fun _ => rfl) (fun u hu => ?_)
    obtain ⟨fp2_6, e9⟩ : ∃ z, z = u := ⟨_, rfl⟩; subst e9
    try dsimp only at hu ⊢
    refine g_callP (g_runS B (PM.met (c_outcomeOf_1 l (D := D) (cI := cI) (cL := cL) (cZ := cZ)  )) (gPp.pre (av := [.int (1 : Int32)]) (wc := []) hK hN [] rfl (by decide)) gX5_ahead_X5_outcomeOf rfl kd_X5_outcomeOf ⟨by decide, by decide⟩ (st := [.long sn]) rfl (Nat.le_of_ble_eq_true rfl) dX5_ahead_53 ⟨by decide, by decide⟩) (fun u hu => ?_)
    refine g_callP (g_runS B (PM.met (c_X5_bit l (D := D) (cI := cI) (cL := cL) (cZ := cZ) 1 (by omega))) (gPp.pre (av := [.int (1 : Int32)]) (wc := []) hK hN [] rfl (by decide)) gX5_ahead_X5_bit rfl kd_X5_bit ⟨by decide, by decide⟩ (st := [.long sn]) rfl (Nat.le_of_ble_eq_true rfl) dX5_ahead_56 ⟨by decide, by decide⟩) (fun u hu => ?_)
    obtain ⟨r_8, e9⟩ : ∃ z, z = u := ⟨_, rfl⟩; subst e9
    try dsimp only at hu ⊢
    have e8_0 := hu
    subst e8_0
    refine g_eql (y := (2 : Int64)) (by decide) ?_
    refine g_lor (v := (sn ||| (2 : Int64))) B dX5_ahead_59 (rfl) ?_
    refine g_lstore_n (lv' := [(0, .ref hb), (1, .int (nI a9)), (2, .int (nI sd)), (3, .long (sn ||| (2 : Int64))), (5, .int (nI k))]) B dX5_ahead_60 rfl (by decide) [1, 2, 3, 0, 4] rfl ?_
    refine g_iinc (lv' := [(0, .ref hb), (1, .int (nI a9)), (2, .int (nI sd)), (3, .long (sn ||| (2 : Int64))), (5, .int (nI (k + 1)))]) B dX5_ahead_61 4 rfl (nI_1 k) (by decide) [1, 2, 3, 4, 0] rfl ?_
    refine g_goto (tgt := 35) B dX5_ahead_64 (by decide) ?_
    exact ih35 (k + 1, sd2_5, (sn ||| (2 : Int64)), fp2_6, (1 : Int32), (1 : Int32), (2 : Int64)) (by (try dsimp only); exact ⟨by omega, by omega, Or.inr ⟨by omega, by rcases i3 with ⟨_, q2⟩ | ⟨_, q2⟩ <;> rw [q2] <;> decide⟩⟩) (by (try dsimp only); omega)

set_option maxHeartbeats 4000000 in
set_option maxRecDepth 100000 in
theorem k_digestOfKnown (l : Launch) {D : va_G} {cI cL cZ : ClassId} (hb : Nat) (hp : Nat) (ht : Nat) (hg : Nat) (ha : Nat) (hq : Nat) (a0 : Nat) (a1 : Nat) (a2 : Nat) (a3 : Nat) (d0 : Int64)  : PM l yX5_digestOfKnown wsX5_digestOfKnown ({ frames := 0, cells := 0, slots := 0, locals := 0 } : Room) D (gTys cI cL cZ) [.ref hb, .long d0] [(hb, .inr (5, [.ref hp, .ref ht, .ref hg, .ref ha, .ref hq])), (ha, .inr (0, [.ref a0, .ref a1, .ref a2, .ref a3, .int (0 : Int32), .long (0 : Int64)]))] (fun (_ : Unit) => True) (fun (_ : Unit) => some (.long d0)) := by
  refine PM.ofG cX5_digestOfKnown 7 (some .long) (by decide +kernel) rfl (Nat.le_of_ble_eq_true rfl) ?_
  intro p e s m below meth c B hr hlocks hname hK hN
  refine g_lload_n B dX5_digestOfKnown_0 1 rfl ?_
  refine g_lstore_n (lv' := [(0, .ref hb), (1, .long d0), (3, .long d0)]) B dX5_digestOfKnown_1 rfl (by decide) [1, 2, 0] rfl ?_
  refine g_iconst (v := (0 : Int32)) B dX5_digestOfKnown_2 (by decide) ?_
  refine g_istore (lv' := [(0, .ref hb), (1, .long d0), (3, .long d0), (5, .int (0 : Int32))]) B dX5_digestOfKnown_3 (by decide) [1, 2, 3, 0] rfl ?_
  refine g_iload B dX5_digestOfKnown_5 3 rfl ?_
  refine g_aload_n B dX5_digestOfKnown_7 0 rfl ?_
  refine g_get (C := RX5) (T := TX5) (N := 5) (ci := 5) B hK hin_X5_digestOfKnown_RX5 0 rfl rfl 3 (by decide) (List.mem_of_getElem? (i := 1) rfl) rfl (v := .ref ha) rfl dX5_digestOfKnown_8 ?_
  refine g_getN (C := RX0) (T := TX0) (N := 6) (ci := 0) B hK hin_X5_digestOfKnown_RX0 1 rfl rfl 4 (by decide) hN 4 rfl rfl (v := .int (0 : Int32)) rfl dX5_digestOfKnown_11 ?_
  refine g_icmp_ge (tgt := 62) B dX5_digestOfKnown_14 (by decide) (fun _ => ?_) (fun c1 => absurd (by decide) c1)
  refine g_lload_n B dX5_digestOfKnown_62 2 rfl ?_
  exact g_lret_p B hr hlocks () (rfl) (trivial) dX5_digestOfKnown_63

set_option maxHeartbeats 4000000 in
set_option maxRecDepth 100000 in
theorem k_digestOfEdges (l : Launch) {D : va_G} {cI cL cZ : ClassId} (hb : Nat) (hp : Nat) (ht : Nat) (hg : Nat) (ha : Nat) (hq : Nat) (a0 : Nat) (a1 : Nat) (a2 : Nat) (a3 : Nat)  : PM l yX5_digestOfEdges wsX5_digestOfEdges ({ frames := 2, cells := 0, slots := 0, locals := 48 } : Room) D (gTys cI cL cZ) [.ref hb, .long (4895594554911372 : Int64)] [(hb, .inr (5, [.ref hp, .ref ht, .ref hg, .ref ha, .ref hq])), (ha, .inr (0, [.ref a0, .ref a1, .ref a2, .ref a3, .int (0 : Int32), .long (0 : Int64)]))] (fun (_ : Unit) => True) (fun (_ : Unit) => some (.long (-4008766937433155060 : Int64))) := by
  refine PM.ofG cX5_digestOfEdges 7 (some .long) (by decide +kernel) rfl (Nat.le_of_ble_eq_true rfl) ?_
  intro p e s m below meth c B hr hlocks hname hK hN
  refine g_lload_n B dX5_digestOfEdges_0 1 rfl ?_
  refine g_lstore_n (lv' := [(0, .ref hb), (1, .long (4895594554911372 : Int64)), (3, .long (4895594554911372 : Int64))]) B dX5_digestOfEdges_1 rfl (by decide) [1, 2, 0] rfl ?_
  refine g_iconst (v := (0 : Int32)) B dX5_digestOfEdges_2 (by decide) ?_
  refine g_istore (lv' := [(0, .ref hb), (1, .long (4895594554911372 : Int64)), (3, .long (4895594554911372 : Int64)), (5, .int (0 : Int32))]) B dX5_digestOfEdges_3 (by decide) [1, 2, 3, 0] rfl ?_
  refine g_iload B dX5_digestOfEdges_5 3 rfl ?_
  refine g_bipush (v := (24 : Int32)) B dX5_digestOfEdges_7 (by decide) ?_
  refine g_icmp_ge (tgt := 49) B dX5_digestOfEdges_9 (by decide) (fun c1 => absurd c1 (by decide)) (fun _ => ?_)
  refine g_iconst (v := (0 : Int32)) B dX5_digestOfEdges_12 (by decide) ?_
  refine g_istore (lv' := [(0, .ref hb), (1, .long (4895594554911372 : Int64)), (3, .long (4895594554911372 : Int64)), (5, .int (0 : Int32)), (6, .int (0 : Int32))]) B dX5_digestOfEdges_13 (by decide) [1, 2, 3, 4, 0] rfl ?_
  refine g_iload B dX5_digestOfEdges_15 4 rfl ?_
  refine g_iconst (v := (2 : Int32)) B dX5_digestOfEdges_17 (by decide) ?_
  refine g_icmp_gt (tgt := 43) B dX5_digestOfEdges_18 (by decide) (fun c2 => absurd c2 (by decide)) (fun _ => ?_)
  refine g_lload_n B dX5_digestOfEdges_21 2 rfl ?_
  refine g_ldc2 (v := (31 : Int64)) B dX5_digestOfEdges_22 (List.mem_of_getElem? (i := 1) rfl) ?_
  refine g_lmul (v := (151763431202252532 : Int64)) B dX5_digestOfEdges_25 (by decide) ?_
  refine g_aload_n B dX5_digestOfEdges_26 0 rfl ?_
  refine g_iload B dX5_digestOfEdges_27 3 rfl ?_
  refine g_iload B dX5_digestOfEdges_29 4 rfl ?_
  refine g_callP (g_runV (q0 := 0) (ci := 5) B hK rfl rfl (PM.met (k_ofEdge_v0 l (D := D) (cI := cI) (cL := cL) (cZ := cZ) hb hp ht hg ha hq a0 a1 a2 a3 0 (by omega))) (gPp.pre (av := [.ref hb, .int (0 : Int32), .int (0 : Int32)]) (wc := [(hb, .inr (5, [.ref hp, .ref ht, .ref hg, .ref ha, .ref hq])), (ha, .inr (0, [.ref a0, .ref a1, .ref a2, .ref a3, .int (0 : Int32), .long (0 : Int64)]))]) hK hN [0, 1] rfl (by decide)) gX5_digestOfEdges_X5_ofEdge rfl rfl kd_X5_ofEdge ⟨by decide, by decide⟩ (st := [.long (151763431202252532 : Int64)]) rfl (Nat.le_of_ble_eq_true rfl) dX5_digestOfEdges_31 ⟨by decide, by decide⟩) (fun u hu => ?_)
  refine g_i2l (v := (0 : Int64)) B dX5_digestOfEdges_34 (by decide) ?_
  refine g_ladd (v := (151763431202252532 : Int64)) B dX5_digestOfEdges_35 (by decide) ?_
  refine g_lstore_n (lv' := [(0, .ref hb), (1, .long (4895594554911372 : Int64)), (3, .long (151763431202252532 : Int64)), (5, .int (0 : Int32)), (6, .int (0 : Int32))]) B dX5_digestOfEdges_36 rfl (by decide) [1, 2, 0, 3, 4] rfl ?_
  refine g_iinc (lv' := [(0, .ref hb), (1, .long (4895594554911372 : Int64)), (3, .long (151763431202252532 : Int64)), (5, .int (0 : Int32)), (6, .int (1 : Int32))]) B dX5_digestOfEdges_37 4 rfl (by decide) (by decide) [1, 2, 3, 4, 0] rfl ?_
  refine g_goto (tgt := 15) B dX5_digestOfEdges_40 (by decide) ?_
  refine g_iload B dX5_digestOfEdges_15 4 rfl ?_
  refine g_iconst (v := (2 : Int32)) B dX5_digestOfEdges_17 (by decide) ?_
  refine g_icmp_gt (tgt := 43) B dX5_digestOfEdges_18 (by decide) (fun c4 => absurd c4 (by decide)) (fun _ => ?_)
  refine g_lload_n B dX5_digestOfEdges_21 2 rfl ?_
  refine g_ldc2 (v := (31 : Int64)) B dX5_digestOfEdges_22 (List.mem_of_getElem? (i := 1) rfl) ?_
  refine g_lmul (v := (4704666367269828492 : Int64)) B dX5_digestOfEdges_25 (by decide) ?_
  refine g_aload_n B dX5_digestOfEdges_26 0 rfl ?_
  refine g_iload B dX5_digestOfEdges_27 3 rfl ?_
  refine g_iload B dX5_digestOfEdges_29 4 rfl ?_
  refine g_callP (g_runV (q0 := 0) (ci := 5) B hK rfl rfl (PM.met (k_ofEdge_v1 l (D := D) (cI := cI) (cL := cL) (cZ := cZ) hb hp ht hg ha hq a0 a1 a2 a3 0 (by omega))) (gPp.pre (av := [.ref hb, .int (0 : Int32), .int (1 : Int32)]) (wc := [(hb, .inr (5, [.ref hp, .ref ht, .ref hg, .ref ha, .ref hq])), (ha, .inr (0, [.ref a0, .ref a1, .ref a2, .ref a3, .int (0 : Int32), .long (0 : Int64)]))]) hK hN [0, 1] rfl (by decide)) gX5_digestOfEdges_X5_ofEdge rfl rfl kd_X5_ofEdge ⟨by decide, by decide⟩ (st := [.long (4704666367269828492 : Int64)]) rfl (Nat.le_of_ble_eq_true rfl) dX5_digestOfEdges_31 ⟨by decide, by decide⟩) (fun u hu => ?_)
  refine g_i2l (v := (0 : Int64)) B dX5_digestOfEdges_34 (by decide) ?_
  refine g_ladd (v := (4704666367269828492 : Int64)) B dX5_digestOfEdges_35 (by decide) ?_
  refine g_lstore_n (lv' := [(0, .ref hb), (1, .long (4895594554911372 : Int64)), (3, .long (4704666367269828492 : Int64)), (5, .int (0 : Int32)), (6, .int (1 : Int32))]) B dX5_digestOfEdges_36 rfl (by decide) [1, 2, 0, 3, 4] rfl ?_
  refine g_iinc (lv' := [(0, .ref hb), (1, .long (4895594554911372 : Int64)), (3, .long (4704666367269828492 : Int64)), (5, .int (0 : Int32)), (6, .int (2 : Int32))]) B dX5_digestOfEdges_37 4 rfl (by decide) (by decide) [1, 2, 3, 4, 0] rfl ?_
  refine g_goto (tgt := 15) B dX5_digestOfEdges_40 (by decide) ?_
  refine g_iload B dX5_digestOfEdges_15 4 rfl ?_
  refine g_iconst (v := (2 : Int32)) B dX5_digestOfEdges_17 (by decide) ?_
  refine g_icmp_gt (tgt := 43) B dX5_digestOfEdges_18 (by decide) (fun c6 => absurd c6 (by decide)) (fun _ => ?_)
  refine g_lload_n B dX5_digestOfEdges_21 2 rfl ?_
  refine g_ldc2 (v := (31 : Int64)) B dX5_digestOfEdges_22 (List.mem_of_getElem? (i := 1) rfl) ?_
  refine g_lmul (v := (-1729295204311729676 : Int64)) B dX5_digestOfEdges_25 (by decide) ?_
  refine g_aload_n B dX5_digestOfEdges_26 0 rfl ?_
  refine g_iload B dX5_digestOfEdges_27 3 rfl ?_
  refine g_iload B dX5_digestOfEdges_29 4 rfl ?_
  refine g_callP (g_runV (q0 := 0) (ci := 5) B hK rfl rfl (PM.met (k_ofEdge_v2 l (D := D) (cI := cI) (cL := cL) (cZ := cZ) hb hp ht hg ha hq a0 a1 a2 a3 0 (by omega))) (gPp.pre (av := [.ref hb, .int (0 : Int32), .int (2 : Int32)]) (wc := [(hb, .inr (5, [.ref hp, .ref ht, .ref hg, .ref ha, .ref hq])), (ha, .inr (0, [.ref a0, .ref a1, .ref a2, .ref a3, .int (0 : Int32), .long (0 : Int64)]))]) hK hN [0, 1] rfl (by decide)) gX5_digestOfEdges_X5_ofEdge rfl rfl kd_X5_ofEdge ⟨by decide, by decide⟩ (st := [.long (-1729295204311729676 : Int64)]) rfl (Nat.le_of_ble_eq_true rfl) dX5_digestOfEdges_31 ⟨by decide, by decide⟩) (fun u hu => ?_)
  refine g_i2l (v := (-1 : Int64)) B dX5_digestOfEdges_34 (by decide) ?_
  refine g_ladd (v := (-1729295204311729677 : Int64)) B dX5_digestOfEdges_35 (by decide) ?_
  refine g_lstore_n (lv' := [(0, .ref hb), (1, .long (4895594554911372 : Int64)), (3, .long (-1729295204311729677 : Int64)), (5, .int (0 : Int32)), (6, .int (2 : Int32))]) B dX5_digestOfEdges_36 rfl (by decide) [1, 2, 0, 3, 4] rfl ?_
  refine g_iinc (lv' := [(0, .ref hb), (1, .long (4895594554911372 : Int64)), (3, .long (-1729295204311729677 : Int64)), (5, .int (0 : Int32)), (6, .int (3 : Int32))]) B dX5_digestOfEdges_37 4 rfl (by decide) (by decide) [1, 2, 3, 4, 0] rfl ?_
  refine g_goto (tgt := 15) B dX5_digestOfEdges_40 (by decide) ?_
  refine g_iload B dX5_digestOfEdges_15 4 rfl ?_
  refine g_iconst (v := (2 : Int32)) B dX5_digestOfEdges_17 (by decide) ?_
  refine g_icmp_gt (tgt := 43) B dX5_digestOfEdges_18 (by decide) (fun _ => ?_) (fun c8 => absurd (by decide) c8)
  refine g_iinc (lv' := [(0, .ref hb), (1, .long (4895594554911372 : Int64)), (3, .long (-1729295204311729677 : Int64)), (5, .int (1 : Int32)), (6, .int (3 : Int32))]) B dX5_digestOfEdges_43 3 rfl (by decide) (by decide) [1, 2, 3, 0, 4] rfl ?_
  refine g_goto (tgt := 5) B dX5_digestOfEdges_46 (by decide) ?_
  refine g_iload B dX5_digestOfEdges_5 3 rfl ?_
  refine g_bipush (v := (24 : Int32)) B dX5_digestOfEdges_7 (by decide) ?_
  refine g_icmp_ge (tgt := 49) B dX5_digestOfEdges_9 (by decide) (fun c9 => absurd c9 (by decide)) (fun _ => ?_)
  refine g_iconst (v := (0 : Int32)) B dX5_digestOfEdges_12 (by decide) ?_
  refine g_istore (lv' := [(0, .ref hb), (1, .long (4895594554911372 : Int64)), (3, .long (-1729295204311729677 : Int64)), (5, .int (1 : Int32)), (6, .int (0 : Int32))]) B dX5_digestOfEdges_13 (by decide) [1, 2, 3, 4, 0] rfl ?_
  refine g_iload B dX5_digestOfEdges_15 4 rfl ?_
  refine g_iconst (v := (2 : Int32)) B dX5_digestOfEdges_17 (by decide) ?_
  refine g_icmp_gt (tgt := 43) B dX5_digestOfEdges_18 (by decide) (fun c10 => absurd c10 (by decide)) (fun _ => ?_)
  refine g_lload_n B dX5_digestOfEdges_21 2 rfl ?_
  refine g_ldc2 (v := (31 : Int64)) B dX5_digestOfEdges_22 (List.mem_of_getElem? (i := 1) rfl) ?_
  refine g_lmul (v := (1732080887465034861 : Int64)) B dX5_digestOfEdges_25 (by decide) ?_
  refine g_aload_n B dX5_digestOfEdges_26 0 rfl ?_
  refine g_iload B dX5_digestOfEdges_27 3 rfl ?_
  refine g_iload B dX5_digestOfEdges_29 4 rfl ?_
  refine g_callP (g_runV (q0 := 0) (ci := 5) B hK rfl rfl (PM.met (k_ofEdge_v0 l (D := D) (cI := cI) (cL := cL) (cZ := cZ) hb hp ht hg ha hq a0 a1 a2 a3 1 (by omega))) (gPp.pre (av := [.ref hb, .int (1 : Int32), .int (0 : Int32)]) (wc := [(hb, .inr (5, [.ref hp, .ref ht, .ref hg, .ref ha, .ref hq])), (ha, .inr (0, [.ref a0, .ref a1, .ref a2, .ref a3, .int (0 : Int32), .long (0 : Int64)]))]) hK hN [0, 1] rfl (by decide)) gX5_digestOfEdges_X5_ofEdge rfl rfl kd_X5_ofEdge ⟨by decide, by decide⟩ (st := [.long (1732080887465034861 : Int64)]) rfl (Nat.le_of_ble_eq_true rfl) dX5_digestOfEdges_31 ⟨by decide, by decide⟩) (fun u hu => ?_)
  refine g_i2l (v := (0 : Int64)) B dX5_digestOfEdges_34 (by decide) ?_
  refine g_ladd (v := (1732080887465034861 : Int64)) B dX5_digestOfEdges_35 (by decide) ?_
  refine g_lstore_n (lv' := [(0, .ref hb), (1, .long (4895594554911372 : Int64)), (3, .long (1732080887465034861 : Int64)), (5, .int (1 : Int32)), (6, .int (0 : Int32))]) B dX5_digestOfEdges_36 rfl (by decide) [1, 2, 0, 3, 4] rfl ?_
  refine g_iinc (lv' := [(0, .ref hb), (1, .long (4895594554911372 : Int64)), (3, .long (1732080887465034861 : Int64)), (5, .int (1 : Int32)), (6, .int (1 : Int32))]) B dX5_digestOfEdges_37 4 rfl (by decide) (by decide) [1, 2, 3, 4, 0] rfl ?_
  refine g_goto (tgt := 15) B dX5_digestOfEdges_40 (by decide) ?_
  refine g_iload B dX5_digestOfEdges_15 4 rfl ?_
  refine g_iconst (v := (2 : Int32)) B dX5_digestOfEdges_17 (by decide) ?_
  refine g_icmp_gt (tgt := 43) B dX5_digestOfEdges_18 (by decide) (fun c12 => absurd c12 (by decide)) (fun _ => ?_)
  refine g_lload_n B dX5_digestOfEdges_21 2 rfl ?_
  refine g_ldc2 (v := (31 : Int64)) B dX5_digestOfEdges_22 (List.mem_of_getElem? (i := 1) rfl) ?_
  refine g_lmul (v := (-1645724709712574157 : Int64)) B dX5_digestOfEdges_25 (by decide) ?_
  refine g_aload_n B dX5_digestOfEdges_26 0 rfl ?_
  refine g_iload B dX5_digestOfEdges_27 3 rfl ?_
  refine g_iload B dX5_digestOfEdges_29 4 rfl ?_
  refine g_callP (g_runV (q0 := 0) (ci := 5) B hK rfl rfl (PM.met (k_ofEdge_v1 l (D := D) (cI := cI) (cL := cL) (cZ := cZ) hb hp ht hg ha hq a0 a1 a2 a3 1 (by omega))) (gPp.pre (av := [.ref hb, .int (1 : Int32), .int (1 : Int32)]) (wc := [(hb, .inr (5, [.ref hp, .ref ht, .ref hg, .ref ha, .ref hq])), (ha, .inr (0, [.ref a0, .ref a1, .ref a2, .ref a3, .int (0 : Int32), .long (0 : Int64)]))]) hK hN [0, 1] rfl (by decide)) gX5_digestOfEdges_X5_ofEdge rfl rfl kd_X5_ofEdge ⟨by decide, by decide⟩ (st := [.long (-1645724709712574157 : Int64)]) rfl (Nat.le_of_ble_eq_true rfl) dX5_digestOfEdges_31 ⟨by decide, by decide⟩) (fun u hu => ?_)
  refine g_i2l (v := (0 : Int64)) B dX5_digestOfEdges_34 (by decide) ?_
  refine g_ladd (v := (-1645724709712574157 : Int64)) B dX5_digestOfEdges_35 (by decide) ?_
  refine g_lstore_n (lv' := [(0, .ref hb), (1, .long (4895594554911372 : Int64)), (3, .long (-1645724709712574157 : Int64)), (5, .int (1 : Int32)), (6, .int (1 : Int32))]) B dX5_digestOfEdges_36 rfl (by decide) [1, 2, 0, 3, 4] rfl ?_
  refine g_iinc (lv' := [(0, .ref hb), (1, .long (4895594554911372 : Int64)), (3, .long (-1645724709712574157 : Int64)), (5, .int (1 : Int32)), (6, .int (2 : Int32))]) B dX5_digestOfEdges_37 4 rfl (by decide) (by decide) [1, 2, 3, 4, 0] rfl ?_
  refine g_goto (tgt := 15) B dX5_digestOfEdges_40 (by decide) ?_
  refine g_iload B dX5_digestOfEdges_15 4 rfl ?_
  refine g_iconst (v := (2 : Int32)) B dX5_digestOfEdges_17 (by decide) ?_
  refine g_icmp_gt (tgt := 43) B dX5_digestOfEdges_18 (by decide) (fun c14 => absurd c14 (by decide)) (fun _ => ?_)
  refine g_lload_n B dX5_digestOfEdges_21 2 rfl ?_
  refine g_ldc2 (v := (31 : Int64)) B dX5_digestOfEdges_22 (List.mem_of_getElem? (i := 1) rfl) ?_
  refine g_lmul (v := (4322766220038855981 : Int64)) B dX5_digestOfEdges_25 (by decide) ?_
  refine g_aload_n B dX5_digestOfEdges_26 0 rfl ?_
  refine g_iload B dX5_digestOfEdges_27 3 rfl ?_
  refine g_iload B dX5_digestOfEdges_29 4 rfl ?_
  refine g_callP (g_runV (q0 := 0) (ci := 5) B hK rfl rfl (PM.met (k_ofEdge_v2 l (D := D) (cI := cI) (cL := cL) (cZ := cZ) hb hp ht hg ha hq a0 a1 a2 a3 1 (by omega))) (gPp.pre (av := [.ref hb, .int (1 : Int32), .int (2 : Int32)]) (wc := [(hb, .inr (5, [.ref hp, .ref ht, .ref hg, .ref ha, .ref hq])), (ha, .inr (0, [.ref a0, .ref a1, .ref a2, .ref a3, .int (0 : Int32), .long (0 : Int64)]))]) hK hN [0, 1] rfl (by decide)) gX5_digestOfEdges_X5_ofEdge rfl rfl kd_X5_ofEdge ⟨by decide, by decide⟩ (st := [.long (4322766220038855981 : Int64)]) rfl (Nat.le_of_ble_eq_true rfl) dX5_digestOfEdges_31 ⟨by decide, by decide⟩) (fun u hu => ?_)
  refine g_i2l (v := (-1 : Int64)) B dX5_digestOfEdges_34 (by decide) ?_
  refine g_ladd (v := (4322766220038855980 : Int64)) B dX5_digestOfEdges_35 (by decide) ?_
  refine g_lstore_n (lv' := [(0, .ref hb), (1, .long (4895594554911372 : Int64)), (3, .long (4322766220038855980 : Int64)), (5, .int (1 : Int32)), (6, .int (2 : Int32))]) B dX5_digestOfEdges_36 rfl (by decide) [1, 2, 0, 3, 4] rfl ?_
  refine g_iinc (lv' := [(0, .ref hb), (1, .long (4895594554911372 : Int64)), (3, .long (4322766220038855980 : Int64)), (5, .int (1 : Int32)), (6, .int (3 : Int32))]) B dX5_digestOfEdges_37 4 rfl (by decide) (by decide) [1, 2, 3, 4, 0] rfl ?_
  refine g_goto (tgt := 15) B dX5_digestOfEdges_40 (by decide) ?_
  refine g_iload B dX5_digestOfEdges_15 4 rfl ?_
  refine g_iconst (v := (2 : Int32)) B dX5_digestOfEdges_17 (by decide) ?_
  refine g_icmp_gt (tgt := 43) B dX5_digestOfEdges_18 (by decide) (fun _ => ?_) (fun c16 => absurd (by decide) c16)
  refine g_iinc (lv' := [(0, .ref hb), (1, .long (4895594554911372 : Int64)), (3, .long (4322766220038855980 : Int64)), (5, .int (2 : Int32)), (6, .int (3 : Int32))]) B dX5_digestOfEdges_43 3 rfl (by decide) (by decide) [1, 2, 3, 0, 4] rfl ?_
  refine g_goto (tgt := 5) B dX5_digestOfEdges_46 (by decide) ?_
  refine g_iload B dX5_digestOfEdges_5 3 rfl ?_
  refine g_bipush (v := (24 : Int32)) B dX5_digestOfEdges_7 (by decide) ?_
  refine g_icmp_ge (tgt := 49) B dX5_digestOfEdges_9 (by decide) (fun c17 => absurd c17 (by decide)) (fun _ => ?_)
  refine g_iconst (v := (0 : Int32)) B dX5_digestOfEdges_12 (by decide) ?_
  refine g_istore (lv' := [(0, .ref hb), (1, .long (4895594554911372 : Int64)), (3, .long (4322766220038855980 : Int64)), (5, .int (2 : Int32)), (6, .int (0 : Int32))]) B dX5_digestOfEdges_13 (by decide) [1, 2, 3, 4, 0] rfl ?_
  refine g_iload B dX5_digestOfEdges_15 4 rfl ?_
  refine g_iconst (v := (2 : Int32)) B dX5_digestOfEdges_17 (by decide) ?_
  refine g_icmp_gt (tgt := 43) B dX5_digestOfEdges_18 (by decide) (fun c18 => absurd c18 (by decide)) (fun _ => ?_)
  refine g_lload_n B dX5_digestOfEdges_21 2 rfl ?_
  refine g_ldc2 (v := (31 : Int64)) B dX5_digestOfEdges_22 (List.mem_of_getElem? (i := 1) rfl) ?_
  refine g_lmul (v := (4878544305237674068 : Int64)) B dX5_digestOfEdges_25 (by decide) ?_
  refine g_aload_n B dX5_digestOfEdges_26 0 rfl ?_
  refine g_iload B dX5_digestOfEdges_27 3 rfl ?_
  refine g_iload B dX5_digestOfEdges_29 4 rfl ?_
  refine g_callP (g_runV (q0 := 0) (ci := 5) B hK rfl rfl (PM.met (k_ofEdge_v0 l (D := D) (cI := cI) (cL := cL) (cZ := cZ) hb hp ht hg ha hq a0 a1 a2 a3 2 (by omega))) (gPp.pre (av := [.ref hb, .int (2 : Int32), .int (0 : Int32)]) (wc := [(hb, .inr (5, [.ref hp, .ref ht, .ref hg, .ref ha, .ref hq])), (ha, .inr (0, [.ref a0, .ref a1, .ref a2, .ref a3, .int (0 : Int32), .long (0 : Int64)]))]) hK hN [0, 1] rfl (by decide)) gX5_digestOfEdges_X5_ofEdge rfl rfl kd_X5_ofEdge ⟨by decide, by decide⟩ (st := [.long (4878544305237674068 : Int64)]) rfl (Nat.le_of_ble_eq_true rfl) dX5_digestOfEdges_31 ⟨by decide, by decide⟩) (fun u hu => ?_)
  refine g_i2l (v := (0 : Int64)) B dX5_digestOfEdges_34 (by decide) ?_
  refine g_ladd (v := (4878544305237674068 : Int64)) B dX5_digestOfEdges_35 (by decide) ?_
  refine g_lstore_n (lv' := [(0, .ref hb), (1, .long (4895594554911372 : Int64)), (3, .long (4878544305237674068 : Int64)), (5, .int (2 : Int32)), (6, .int (0 : Int32))]) B dX5_digestOfEdges_36 rfl (by decide) [1, 2, 0, 3, 4] rfl ?_
  refine g_iinc (lv' := [(0, .ref hb), (1, .long (4895594554911372 : Int64)), (3, .long (4878544305237674068 : Int64)), (5, .int (2 : Int32)), (6, .int (1 : Int32))]) B dX5_digestOfEdges_37 4 rfl (by decide) (by decide) [1, 2, 3, 4, 0] rfl ?_
  refine g_goto (tgt := 15) B dX5_digestOfEdges_40 (by decide) ?_
  refine g_iload B dX5_digestOfEdges_15 4 rfl ?_
  refine g_iconst (v := (2 : Int32)) B dX5_digestOfEdges_17 (by decide) ?_
  refine g_icmp_gt (tgt := 43) B dX5_digestOfEdges_18 (by decide) (fun c20 => absurd c20 (by decide)) (fun _ => ?_)
  refine g_lload_n B dX5_digestOfEdges_21 2 rfl ?_
  refine g_ldc2 (v := (31 : Int64)) B dX5_digestOfEdges_22 (List.mem_of_getElem? (i := 1) rfl) ?_
  refine g_lmul (v := (3660920872691483180 : Int64)) B dX5_digestOfEdges_25 (by decide) ?_
  refine g_aload_n B dX5_digestOfEdges_26 0 rfl ?_
  refine g_iload B dX5_digestOfEdges_27 3 rfl ?_
  refine g_iload B dX5_digestOfEdges_29 4 rfl ?_
  refine g_callP (g_runV (q0 := 0) (ci := 5) B hK rfl rfl (PM.met (k_ofEdge_v1 l (D := D) (cI := cI) (cL := cL) (cZ := cZ) hb hp ht hg ha hq a0 a1 a2 a3 2 (by omega))) (gPp.pre (av := [.ref hb, .int (2 : Int32), .int (1 : Int32)]) (wc := [(hb, .inr (5, [.ref hp, .ref ht, .ref hg, .ref ha, .ref hq])), (ha, .inr (0, [.ref a0, .ref a1, .ref a2, .ref a3, .int (0 : Int32), .long (0 : Int64)]))]) hK hN [0, 1] rfl (by decide)) gX5_digestOfEdges_X5_ofEdge rfl rfl kd_X5_ofEdge ⟨by decide, by decide⟩ (st := [.long (3660920872691483180 : Int64)]) rfl (Nat.le_of_ble_eq_true rfl) dX5_digestOfEdges_31 ⟨by decide, by decide⟩) (fun u hu => ?_)
  refine g_i2l (v := (0 : Int64)) B dX5_digestOfEdges_34 (by decide) ?_
  refine g_ladd (v := (3660920872691483180 : Int64)) B dX5_digestOfEdges_35 (by decide) ?_
  refine g_lstore_n (lv' := [(0, .ref hb), (1, .long (4895594554911372 : Int64)), (3, .long (3660920872691483180 : Int64)), (5, .int (2 : Int32)), (6, .int (1 : Int32))]) B dX5_digestOfEdges_36 rfl (by decide) [1, 2, 0, 3, 4] rfl ?_
  refine g_iinc (lv' := [(0, .ref hb), (1, .long (4895594554911372 : Int64)), (3, .long (3660920872691483180 : Int64)), (5, .int (2 : Int32)), (6, .int (2 : Int32))]) B dX5_digestOfEdges_37 4 rfl (by decide) (by decide) [1, 2, 3, 4, 0] rfl ?_
  refine g_goto (tgt := 15) B dX5_digestOfEdges_40 (by decide) ?_
  refine g_iload B dX5_digestOfEdges_15 4 rfl ?_
  refine g_iconst (v := (2 : Int32)) B dX5_digestOfEdges_17 (by decide) ?_
  refine g_icmp_gt (tgt := 43) B dX5_digestOfEdges_18 (by decide) (fun c22 => absurd c22 (by decide)) (fun _ => ?_)
  refine g_lload_n B dX5_digestOfEdges_21 2 rfl ?_
  refine g_ldc2 (v := (31 : Int64)) B dX5_digestOfEdges_22 (List.mem_of_getElem? (i := 1) rfl) ?_
  refine g_lmul (v := (2808082611178668884 : Int64)) B dX5_digestOfEdges_25 (by decide) ?_
  refine g_aload_n B dX5_digestOfEdges_26 0 rfl ?_
  refine g_iload B dX5_digestOfEdges_27 3 rfl ?_
  refine g_iload B dX5_digestOfEdges_29 4 rfl ?_
  refine g_callP (g_runV (q0 := 0) (ci := 5) B hK rfl rfl (PM.met (k_ofEdge_v2 l (D := D) (cI := cI) (cL := cL) (cZ := cZ) hb hp ht hg ha hq a0 a1 a2 a3 2 (by omega))) (gPp.pre (av := [.ref hb, .int (2 : Int32), .int (2 : Int32)]) (wc := [(hb, .inr (5, [.ref hp, .ref ht, .ref hg, .ref ha, .ref hq])), (ha, .inr (0, [.ref a0, .ref a1, .ref a2, .ref a3, .int (0 : Int32), .long (0 : Int64)]))]) hK hN [0, 1] rfl (by decide)) gX5_digestOfEdges_X5_ofEdge rfl rfl kd_X5_ofEdge ⟨by decide, by decide⟩ (st := [.long (2808082611178668884 : Int64)]) rfl (Nat.le_of_ble_eq_true rfl) dX5_digestOfEdges_31 ⟨by decide, by decide⟩) (fun u hu => ?_)
  refine g_i2l (v := (-1 : Int64)) B dX5_digestOfEdges_34 (by decide) ?_
  refine g_ladd (v := (2808082611178668883 : Int64)) B dX5_digestOfEdges_35 (by decide) ?_
  refine g_lstore_n (lv' := [(0, .ref hb), (1, .long (4895594554911372 : Int64)), (3, .long (2808082611178668883 : Int64)), (5, .int (2 : Int32)), (6, .int (2 : Int32))]) B dX5_digestOfEdges_36 rfl (by decide) [1, 2, 0, 3, 4] rfl ?_
  refine g_iinc (lv' := [(0, .ref hb), (1, .long (4895594554911372 : Int64)), (3, .long (2808082611178668883 : Int64)), (5, .int (2 : Int32)), (6, .int (3 : Int32))]) B dX5_digestOfEdges_37 4 rfl (by decide) (by decide) [1, 2, 3, 4, 0] rfl ?_
  refine g_goto (tgt := 15) B dX5_digestOfEdges_40 (by decide) ?_
  refine g_iload B dX5_digestOfEdges_15 4 rfl ?_
  refine g_iconst (v := (2 : Int32)) B dX5_digestOfEdges_17 (by decide) ?_
  refine g_icmp_gt (tgt := 43) B dX5_digestOfEdges_18 (by decide) (fun _ => ?_) (fun c24 => absurd (by decide) c24)
  refine g_iinc (lv' := [(0, .ref hb), (1, .long (4895594554911372 : Int64)), (3, .long (2808082611178668883 : Int64)), (5, .int (3 : Int32)), (6, .int (3 : Int32))]) B dX5_digestOfEdges_43 3 rfl (by decide) (by decide) [1, 2, 3, 0, 4] rfl ?_
  refine g_goto (tgt := 5) B dX5_digestOfEdges_46 (by decide) ?_
  refine g_iload B dX5_digestOfEdges_5 3 rfl ?_
  refine g_bipush (v := (24 : Int32)) B dX5_digestOfEdges_7 (by decide) ?_
  refine g_icmp_ge (tgt := 49) B dX5_digestOfEdges_9 (by decide) (fun c25 => absurd c25 (by decide)) (fun _ => ?_)
  refine g_iconst (v := (0 : Int32)) B dX5_digestOfEdges_12 (by decide) ?_
  refine g_istore (lv' := [(0, .ref hb), (1, .long (4895594554911372 : Int64)), (3, .long (2808082611178668883 : Int64)), (5, .int (3 : Int32)), (6, .int (0 : Int32))]) B dX5_digestOfEdges_13 (by decide) [1, 2, 3, 4, 0] rfl ?_
  refine g_iload B dX5_digestOfEdges_15 4 rfl ?_
  refine g_iconst (v := (2 : Int32)) B dX5_digestOfEdges_17 (by decide) ?_
  refine g_icmp_gt (tgt := 43) B dX5_digestOfEdges_18 (by decide) (fun c26 => absurd c26 (by decide)) (fun _ => ?_)
  refine g_lload_n B dX5_digestOfEdges_21 2 rfl ?_
  refine g_ldc2 (v := (31 : Int64)) B dX5_digestOfEdges_22 (List.mem_of_getElem? (i := 1) rfl) ?_
  refine g_lmul (v := (-5183159422009022707 : Int64)) B dX5_digestOfEdges_25 (by decide) ?_
  refine g_aload_n B dX5_digestOfEdges_26 0 rfl ?_
  refine g_iload B dX5_digestOfEdges_27 3 rfl ?_
  refine g_iload B dX5_digestOfEdges_29 4 rfl ?_
  refine g_callP (g_runV (q0 := 0) (ci := 5) B hK rfl rfl (PM.met (k_ofEdge_v0 l (D := D) (cI := cI) (cL := cL) (cZ := cZ) hb hp ht hg ha hq a0 a1 a2 a3 3 (by omega))) (gPp.pre (av := [.ref hb, .int (3 : Int32), .int (0 : Int32)]) (wc := [(hb, .inr (5, [.ref hp, .ref ht, .ref hg, .ref ha, .ref hq])), (ha, .inr (0, [.ref a0, .ref a1, .ref a2, .ref a3, .int (0 : Int32), .long (0 : Int64)]))]) hK hN [0, 1] rfl (by decide)) gX5_digestOfEdges_X5_ofEdge rfl rfl kd_X5_ofEdge ⟨by decide, by decide⟩ (st := [.long (-5183159422009022707 : Int64)]) rfl (Nat.le_of_ble_eq_true rfl) dX5_digestOfEdges_31 ⟨by decide, by decide⟩) (fun u hu => ?_)
  refine g_i2l (v := (0 : Int64)) B dX5_digestOfEdges_34 (by decide) ?_
  refine g_ladd (v := (-5183159422009022707 : Int64)) B dX5_digestOfEdges_35 (by decide) ?_
  refine g_lstore_n (lv' := [(0, .ref hb), (1, .long (4895594554911372 : Int64)), (3, .long (-5183159422009022707 : Int64)), (5, .int (3 : Int32)), (6, .int (0 : Int32))]) B dX5_digestOfEdges_36 rfl (by decide) [1, 2, 0, 3, 4] rfl ?_
  refine g_iinc (lv' := [(0, .ref hb), (1, .long (4895594554911372 : Int64)), (3, .long (-5183159422009022707 : Int64)), (5, .int (3 : Int32)), (6, .int (1 : Int32))]) B dX5_digestOfEdges_37 4 rfl (by decide) (by decide) [1, 2, 3, 4, 0] rfl ?_
  refine g_goto (tgt := 15) B dX5_digestOfEdges_40 (by decide) ?_
  refine g_iload B dX5_digestOfEdges_15 4 rfl ?_
  refine g_iconst (v := (2 : Int32)) B dX5_digestOfEdges_17 (by decide) ?_
  refine g_icmp_gt (tgt := 43) B dX5_digestOfEdges_18 (by decide) (fun c28 => absurd c28 (by decide)) (fun _ => ?_)
  refine g_lload_n B dX5_digestOfEdges_21 2 rfl ?_
  refine g_ldc2 (v := (31 : Int64)) B dX5_digestOfEdges_22 (List.mem_of_getElem? (i := 1) rfl) ?_
  refine g_lmul (v := (5342754581106260627 : Int64)) B dX5_digestOfEdges_25 (by decide) ?_
  refine g_aload_n B dX5_digestOfEdges_26 0 rfl ?_
  refine g_iload B dX5_digestOfEdges_27 3 rfl ?_
  refine g_iload B dX5_digestOfEdges_29 4 rfl ?_
  refine g_callP (g_runV (q0 := 0) (ci := 5) B hK rfl rfl (PM.met (k_ofEdge_v1 l (D := D) (cI := cI) (cL := cL) (cZ := cZ) hb hp ht hg ha hq a0 a1 a2 a3 3 (by omega))) (gPp.pre (av := [.ref hb, .int (3 : Int32), .int (1 : Int32)]) (wc := [(hb, .inr (5, [.ref hp, .ref ht, .ref hg, .ref ha, .ref hq])), (ha, .inr (0, [.ref a0, .ref a1, .ref a2, .ref a3, .int (0 : Int32), .long (0 : Int64)]))]) hK hN [0, 1] rfl (by decide)) gX5_digestOfEdges_X5_ofEdge rfl rfl kd_X5_ofEdge ⟨by decide, by decide⟩ (st := [.long (5342754581106260627 : Int64)]) rfl (Nat.le_of_ble_eq_true rfl) dX5_digestOfEdges_31 ⟨by decide, by decide⟩) (fun u hu => ?_)
  refine g_i2l (v := (0 : Int64)) B dX5_digestOfEdges_34 (by decide) ?_
  refine g_ladd (v := (5342754581106260627 : Int64)) B dX5_digestOfEdges_35 (by decide) ?_
  refine g_lstore_n (lv' := [(0, .ref hb), (1, .long (4895594554911372 : Int64)), (3, .long (5342754581106260627 : Int64)), (5, .int (3 : Int32)), (6, .int (1 : Int32))]) B dX5_digestOfEdges_36 rfl (by decide) [1, 2, 0, 3, 4] rfl ?_
  refine g_iinc (lv' := [(0, .ref hb), (1, .long (4895594554911372 : Int64)), (3, .long (5342754581106260627 : Int64)), (5, .int (3 : Int32)), (6, .int (2 : Int32))]) B dX5_digestOfEdges_37 4 rfl (by decide) (by decide) [1, 2, 3, 4, 0] rfl ?_
  refine g_goto (tgt := 15) B dX5_digestOfEdges_40 (by decide) ?_
  refine g_iload B dX5_digestOfEdges_15 4 rfl ?_
  refine g_iconst (v := (2 : Int32)) B dX5_digestOfEdges_17 (by decide) ?_
  refine g_icmp_gt (tgt := 43) B dX5_digestOfEdges_18 (by decide) (fun c30 => absurd c30 (by decide)) (fun _ => ?_)
  refine g_lload_n B dX5_digestOfEdges_21 2 rfl ?_
  refine g_ldc2 (v := (31 : Int64)) B dX5_digestOfEdges_22 (List.mem_of_getElem? (i := 1) rfl) ?_
  refine g_lmul (v := (-395304649091885107 : Int64)) B dX5_digestOfEdges_25 (by decide) ?_
  refine g_aload_n B dX5_digestOfEdges_26 0 rfl ?_
  refine g_iload B dX5_digestOfEdges_27 3 rfl ?_
  refine g_iload B dX5_digestOfEdges_29 4 rfl ?_
  refine g_callP (g_runV (q0 := 0) (ci := 5) B hK rfl rfl (PM.met (k_ofEdge_v2 l (D := D) (cI := cI) (cL := cL) (cZ := cZ) hb hp ht hg ha hq a0 a1 a2 a3 3 (by omega))) (gPp.pre (av := [.ref hb, .int (3 : Int32), .int (2 : Int32)]) (wc := [(hb, .inr (5, [.ref hp, .ref ht, .ref hg, .ref ha, .ref hq])), (ha, .inr (0, [.ref a0, .ref a1, .ref a2, .ref a3, .int (0 : Int32), .long (0 : Int64)]))]) hK hN [0, 1] rfl (by decide)) gX5_digestOfEdges_X5_ofEdge rfl rfl kd_X5_ofEdge ⟨by decide, by decide⟩ (st := [.long (-395304649091885107 : Int64)]) rfl (Nat.le_of_ble_eq_true rfl) dX5_digestOfEdges_31 ⟨by decide, by decide⟩) (fun u hu => ?_)
  refine g_i2l (v := (-1 : Int64)) B dX5_digestOfEdges_34 (by decide) ?_
  refine g_ladd (v := (-395304649091885108 : Int64)) B dX5_digestOfEdges_35 (by decide) ?_
  refine g_lstore_n (lv' := [(0, .ref hb), (1, .long (4895594554911372 : Int64)), (3, .long (-395304649091885108 : Int64)), (5, .int (3 : Int32)), (6, .int (2 : Int32))]) B dX5_digestOfEdges_36 rfl (by decide) [1, 2, 0, 3, 4] rfl ?_
  refine g_iinc (lv' := [(0, .ref hb), (1, .long (4895594554911372 : Int64)), (3, .long (-395304649091885108 : Int64)), (5, .int (3 : Int32)), (6, .int (3 : Int32))]) B dX5_digestOfEdges_37 4 rfl (by decide) (by decide) [1, 2, 3, 4, 0] rfl ?_
  refine g_goto (tgt := 15) B dX5_digestOfEdges_40 (by decide) ?_
  refine g_iload B dX5_digestOfEdges_15 4 rfl ?_
  refine g_iconst (v := (2 : Int32)) B dX5_digestOfEdges_17 (by decide) ?_
  refine g_icmp_gt (tgt := 43) B dX5_digestOfEdges_18 (by decide) (fun _ => ?_) (fun c32 => absurd (by decide) c32)
  refine g_iinc (lv' := [(0, .ref hb), (1, .long (4895594554911372 : Int64)), (3, .long (-395304649091885108 : Int64)), (5, .int (4 : Int32)), (6, .int (3 : Int32))]) B dX5_digestOfEdges_43 3 rfl (by decide) (by decide) [1, 2, 3, 0, 4] rfl ?_
  refine g_goto (tgt := 5) B dX5_digestOfEdges_46 (by decide) ?_
  refine g_iload B dX5_digestOfEdges_5 3 rfl ?_
  refine g_bipush (v := (24 : Int32)) B dX5_digestOfEdges_7 (by decide) ?_
  refine g_icmp_ge (tgt := 49) B dX5_digestOfEdges_9 (by decide) (fun c33 => absurd c33 (by decide)) (fun _ => ?_)
  refine g_iconst (v := (0 : Int32)) B dX5_digestOfEdges_12 (by decide) ?_
  refine g_istore (lv' := [(0, .ref hb), (1, .long (4895594554911372 : Int64)), (3, .long (-395304649091885108 : Int64)), (5, .int (4 : Int32)), (6, .int (0 : Int32))]) B dX5_digestOfEdges_13 (by decide) [1, 2, 3, 4, 0] rfl ?_
  refine g_iload B dX5_digestOfEdges_15 4 rfl ?_
  refine g_iconst (v := (2 : Int32)) B dX5_digestOfEdges_17 (by decide) ?_
  refine g_icmp_gt (tgt := 43) B dX5_digestOfEdges_18 (by decide) (fun c34 => absurd c34 (by decide)) (fun _ => ?_)
  refine g_lload_n B dX5_digestOfEdges_21 2 rfl ?_
  refine g_ldc2 (v := (31 : Int64)) B dX5_digestOfEdges_22 (List.mem_of_getElem? (i := 1) rfl) ?_
  refine g_lmul (v := (6192299951861113268 : Int64)) B dX5_digestOfEdges_25 (by decide) ?_
  refine g_aload_n B dX5_digestOfEdges_26 0 rfl ?_
  refine g_iload B dX5_digestOfEdges_27 3 rfl ?_
  refine g_iload B dX5_digestOfEdges_29 4 rfl ?_
  refine g_callP (g_runV (q0 := 0) (ci := 5) B hK rfl rfl (PM.met (k_ofEdge_v0 l (D := D) (cI := cI) (cL := cL) (cZ := cZ) hb hp ht hg ha hq a0 a1 a2 a3 4 (by omega))) (gPp.pre (av := [.ref hb, .int (4 : Int32), .int (0 : Int32)]) (wc := [(hb, .inr (5, [.ref hp, .ref ht, .ref hg, .ref ha, .ref hq])), (ha, .inr (0, [.ref a0, .ref a1, .ref a2, .ref a3, .int (0 : Int32), .long (0 : Int64)]))]) hK hN [0, 1] rfl (by decide)) gX5_digestOfEdges_X5_ofEdge rfl rfl kd_X5_ofEdge ⟨by decide, by decide⟩ (st := [.long (6192299951861113268 : Int64)]) rfl (Nat.le_of_ble_eq_true rfl) dX5_digestOfEdges_31 ⟨by decide, by decide⟩) (fun u hu => ?_)
  refine g_i2l (v := (0 : Int64)) B dX5_digestOfEdges_34 (by decide) ?_
  refine g_ladd (v := (6192299951861113268 : Int64)) B dX5_digestOfEdges_35 (by decide) ?_
  refine g_lstore_n (lv' := [(0, .ref hb), (1, .long (4895594554911372 : Int64)), (3, .long (6192299951861113268 : Int64)), (5, .int (4 : Int32)), (6, .int (0 : Int32))]) B dX5_digestOfEdges_36 rfl (by decide) [1, 2, 0, 3, 4] rfl ?_
  refine g_iinc (lv' := [(0, .ref hb), (1, .long (4895594554911372 : Int64)), (3, .long (6192299951861113268 : Int64)), (5, .int (4 : Int32)), (6, .int (1 : Int32))]) B dX5_digestOfEdges_37 4 rfl (by decide) (by decide) [1, 2, 3, 4, 0] rfl ?_
  refine g_goto (tgt := 15) B dX5_digestOfEdges_40 (by decide) ?_
  refine g_iload B dX5_digestOfEdges_15 4 rfl ?_
  refine g_iconst (v := (2 : Int32)) B dX5_digestOfEdges_17 (by decide) ?_
  refine g_icmp_gt (tgt := 43) B dX5_digestOfEdges_18 (by decide) (fun c36 => absurd c36 (by decide)) (fun _ => ?_)
  refine g_lload_n B dX5_digestOfEdges_21 2 rfl ?_
  refine g_ldc2 (v := (31 : Int64)) B dX5_digestOfEdges_22 (List.mem_of_getElem? (i := 1) rfl) ?_
  refine g_lmul (v := (7493857770598995148 : Int64)) B dX5_digestOfEdges_25 (by decide) ?_
  refine g_aload_n B dX5_digestOfEdges_26 0 rfl ?_
  refine g_iload B dX5_digestOfEdges_27 3 rfl ?_
  refine g_iload B dX5_digestOfEdges_29 4 rfl ?_
  refine g_callP (g_runV (q0 := 0) (ci := 5) B hK rfl rfl (PM.met (k_ofEdge_v1 l (D := D) (cI := cI) (cL := cL) (cZ := cZ) hb hp ht hg ha hq a0 a1 a2 a3 4 (by omega))) (gPp.pre (av := [.ref hb, .int (4 : Int32), .int (1 : Int32)]) (wc := [(hb, .inr (5, [.ref hp, .ref ht, .ref hg, .ref ha, .ref hq])), (ha, .inr (0, [.ref a0, .ref a1, .ref a2, .ref a3, .int (0 : Int32), .long (0 : Int64)]))]) hK hN [0, 1] rfl (by decide)) gX5_digestOfEdges_X5_ofEdge rfl rfl kd_X5_ofEdge ⟨by decide, by decide⟩ (st := [.long (7493857770598995148 : Int64)]) rfl (Nat.le_of_ble_eq_true rfl) dX5_digestOfEdges_31 ⟨by decide, by decide⟩) (fun u hu => ?_)
  refine g_i2l (v := (0 : Int64)) B dX5_digestOfEdges_34 (by decide) ?_
  refine g_ladd (v := (7493857770598995148 : Int64)) B dX5_digestOfEdges_35 (by decide) ?_
  refine g_lstore_n (lv' := [(0, .ref hb), (1, .long (4895594554911372 : Int64)), (3, .long (7493857770598995148 : Int64)), (5, .int (4 : Int32)), (6, .int (1 : Int32))]) B dX5_digestOfEdges_36 rfl (by decide) [1, 2, 0, 3, 4] rfl ?_
  refine g_iinc (lv' := [(0, .ref hb), (1, .long (4895594554911372 : Int64)), (3, .long (7493857770598995148 : Int64)), (5, .int (4 : Int32)), (6, .int (2 : Int32))]) B dX5_digestOfEdges_37 4 rfl (by decide) (by decide) [1, 2, 3, 4, 0] rfl ?_
  refine g_goto (tgt := 15) B dX5_digestOfEdges_40 (by decide) ?_
  refine g_iload B dX5_digestOfEdges_15 4 rfl ?_
  refine g_iconst (v := (2 : Int32)) B dX5_digestOfEdges_17 (by decide) ?_
  refine g_icmp_gt (tgt := 43) B dX5_digestOfEdges_18 (by decide) (fun c38 => absurd c38 (by decide)) (fun _ => ?_)
  refine g_lload_n B dX5_digestOfEdges_21 2 rfl ?_
  refine g_ldc2 (v := (31 : Int64)) B dX5_digestOfEdges_22 (List.mem_of_getElem? (i := 1) rfl) ?_
  refine g_lmul (v := (-7498082069655321420 : Int64)) B dX5_digestOfEdges_25 (by decide) ?_
  refine g_aload_n B dX5_digestOfEdges_26 0 rfl ?_
  refine g_iload B dX5_digestOfEdges_27 3 rfl ?_
  refine g_iload B dX5_digestOfEdges_29 4 rfl ?_
  refine g_callP (g_runV (q0 := 0) (ci := 5) B hK rfl rfl (PM.met (k_ofEdge_v2 l (D := D) (cI := cI) (cL := cL) (cZ := cZ) hb hp ht hg ha hq a0 a1 a2 a3 4 (by omega))) (gPp.pre (av := [.ref hb, .int (4 : Int32), .int (2 : Int32)]) (wc := [(hb, .inr (5, [.ref hp, .ref ht, .ref hg, .ref ha, .ref hq])), (ha, .inr (0, [.ref a0, .ref a1, .ref a2, .ref a3, .int (0 : Int32), .long (0 : Int64)]))]) hK hN [0, 1] rfl (by decide)) gX5_digestOfEdges_X5_ofEdge rfl rfl kd_X5_ofEdge ⟨by decide, by decide⟩ (st := [.long (-7498082069655321420 : Int64)]) rfl (Nat.le_of_ble_eq_true rfl) dX5_digestOfEdges_31 ⟨by decide, by decide⟩) (fun u hu => ?_)
  refine g_i2l (v := (-1 : Int64)) B dX5_digestOfEdges_34 (by decide) ?_
  refine g_ladd (v := (-7498082069655321421 : Int64)) B dX5_digestOfEdges_35 (by decide) ?_
  refine g_lstore_n (lv' := [(0, .ref hb), (1, .long (4895594554911372 : Int64)), (3, .long (-7498082069655321421 : Int64)), (5, .int (4 : Int32)), (6, .int (2 : Int32))]) B dX5_digestOfEdges_36 rfl (by decide) [1, 2, 0, 3, 4] rfl ?_
  refine g_iinc (lv' := [(0, .ref hb), (1, .long (4895594554911372 : Int64)), (3, .long (-7498082069655321421 : Int64)), (5, .int (4 : Int32)), (6, .int (3 : Int32))]) B dX5_digestOfEdges_37 4 rfl (by decide) (by decide) [1, 2, 3, 4, 0] rfl ?_
  refine g_goto (tgt := 15) B dX5_digestOfEdges_40 (by decide) ?_
  refine g_iload B dX5_digestOfEdges_15 4 rfl ?_
  refine g_iconst (v := (2 : Int32)) B dX5_digestOfEdges_17 (by decide) ?_
  refine g_icmp_gt (tgt := 43) B dX5_digestOfEdges_18 (by decide) (fun _ => ?_) (fun c40 => absurd (by decide) c40)
  refine g_iinc (lv' := [(0, .ref hb), (1, .long (4895594554911372 : Int64)), (3, .long (-7498082069655321421 : Int64)), (5, .int (5 : Int32)), (6, .int (3 : Int32))]) B dX5_digestOfEdges_43 3 rfl (by decide) (by decide) [1, 2, 3, 0, 4] rfl ?_
  refine g_goto (tgt := 5) B dX5_digestOfEdges_46 (by decide) ?_
  refine g_iload B dX5_digestOfEdges_5 3 rfl ?_
  refine g_bipush (v := (24 : Int32)) B dX5_digestOfEdges_7 (by decide) ?_
  refine g_icmp_ge (tgt := 49) B dX5_digestOfEdges_9 (by decide) (fun c41 => absurd c41 (by decide)) (fun _ => ?_)
  refine g_iconst (v := (0 : Int32)) B dX5_digestOfEdges_12 (by decide) ?_
  refine g_istore (lv' := [(0, .ref hb), (1, .long (4895594554911372 : Int64)), (3, .long (-7498082069655321421 : Int64)), (5, .int (5 : Int32)), (6, .int (0 : Int32))]) B dX5_digestOfEdges_13 (by decide) [1, 2, 3, 4, 0] rfl ?_
  refine g_iload B dX5_digestOfEdges_15 4 rfl ?_
  refine g_iconst (v := (2 : Int32)) B dX5_digestOfEdges_17 (by decide) ?_
  refine g_icmp_gt (tgt := 43) B dX5_digestOfEdges_18 (by decide) (fun c42 => absurd c42 (by decide)) (fun _ => ?_)
  refine g_lload_n B dX5_digestOfEdges_21 2 rfl ?_
  refine g_ldc2 (v := (31 : Int64)) B dX5_digestOfEdges_22 (List.mem_of_getElem? (i := 1) rfl) ?_
  refine g_lmul (v := (7367128798909206957 : Int64)) B dX5_digestOfEdges_25 (by decide) ?_
  refine g_aload_n B dX5_digestOfEdges_26 0 rfl ?_
  refine g_iload B dX5_digestOfEdges_27 3 rfl ?_
  refine g_iload B dX5_digestOfEdges_29 4 rfl ?_
  refine g_callP (g_runV (q0 := 0) (ci := 5) B hK rfl rfl (PM.met (k_ofEdge_v0 l (D := D) (cI := cI) (cL := cL) (cZ := cZ) hb hp ht hg ha hq a0 a1 a2 a3 5 (by omega))) (gPp.pre (av := [.ref hb, .int (5 : Int32), .int (0 : Int32)]) (wc := [(hb, .inr (5, [.ref hp, .ref ht, .ref hg, .ref ha, .ref hq])), (ha, .inr (0, [.ref a0, .ref a1, .ref a2, .ref a3, .int (0 : Int32), .long (0 : Int64)]))]) hK hN [0, 1] rfl (by decide)) gX5_digestOfEdges_X5_ofEdge rfl rfl kd_X5_ofEdge ⟨by decide, by decide⟩ (st := [.long (7367128798909206957 : Int64)]) rfl (Nat.le_of_ble_eq_true rfl) dX5_digestOfEdges_31 ⟨by decide, by decide⟩) (fun u hu => ?_)
  refine g_i2l (v := (0 : Int64)) B dX5_digestOfEdges_34 (by decide) ?_
  refine g_ladd (v := (7367128798909206957 : Int64)) B dX5_digestOfEdges_35 (by decide) ?_
  refine g_lstore_n (lv' := [(0, .ref hb), (1, .long (4895594554911372 : Int64)), (3, .long (7367128798909206957 : Int64)), (5, .int (5 : Int32)), (6, .int (0 : Int32))]) B dX5_digestOfEdges_36 rfl (by decide) [1, 2, 0, 3, 4] rfl ?_
  refine g_iinc (lv' := [(0, .ref hb), (1, .long (4895594554911372 : Int64)), (3, .long (7367128798909206957 : Int64)), (5, .int (5 : Int32)), (6, .int (1 : Int32))]) B dX5_digestOfEdges_37 4 rfl (by decide) (by decide) [1, 2, 3, 4, 0] rfl ?_
  refine g_goto (tgt := 15) B dX5_digestOfEdges_40 (by decide) ?_
  refine g_iload B dX5_digestOfEdges_15 4 rfl ?_
  refine g_iconst (v := (2 : Int32)) B dX5_digestOfEdges_17 (by decide) ?_
  refine g_icmp_gt (tgt := 43) B dX5_digestOfEdges_18 (by decide) (fun c44 => absurd c44 (by decide)) (fun _ => ?_)
  refine g_lload_n B dX5_digestOfEdges_21 2 rfl ?_
  refine g_ldc2 (v := (31 : Int64)) B dX5_digestOfEdges_22 (List.mem_of_getElem? (i := 1) rfl) ?_
  refine g_lmul (v := (7020063881670796275 : Int64)) B dX5_digestOfEdges_25 (by decide) ?_
  refine g_aload_n B dX5_digestOfEdges_26 0 rfl ?_
  refine g_iload B dX5_digestOfEdges_27 3 rfl ?_
  refine g_iload B dX5_digestOfEdges_29 4 rfl ?_
  refine g_callP (g_runV (q0 := 0) (ci := 5) B hK rfl rfl (PM.met (k_ofEdge_v1 l (D := D) (cI := cI) (cL := cL) (cZ := cZ) hb hp ht hg ha hq a0 a1 a2 a3 5 (by omega))) (gPp.pre (av := [.ref hb, .int (5 : Int32), .int (1 : Int32)]) (wc := [(hb, .inr (5, [.ref hp, .ref ht, .ref hg, .ref ha, .ref hq])), (ha, .inr (0, [.ref a0, .ref a1, .ref a2, .ref a3, .int (0 : Int32), .long (0 : Int64)]))]) hK hN [0, 1] rfl (by decide)) gX5_digestOfEdges_X5_ofEdge rfl rfl kd_X5_ofEdge ⟨by decide, by decide⟩ (st := [.long (7020063881670796275 : Int64)]) rfl (Nat.le_of_ble_eq_true rfl) dX5_digestOfEdges_31 ⟨by decide, by decide⟩) (fun u hu => ?_)
  refine g_i2l (v := (0 : Int64)) B dX5_digestOfEdges_34 (by decide) ?_
  refine g_ladd (v := (7020063881670796275 : Int64)) B dX5_digestOfEdges_35 (by decide) ?_
  refine g_lstore_n (lv' := [(0, .ref hb), (1, .long (4895594554911372 : Int64)), (3, .long (7020063881670796275 : Int64)), (5, .int (5 : Int32)), (6, .int (1 : Int32))]) B dX5_digestOfEdges_36 rfl (by decide) [1, 2, 0, 3, 4] rfl ?_
  refine g_iinc (lv' := [(0, .ref hb), (1, .long (4895594554911372 : Int64)), (3, .long (7020063881670796275 : Int64)), (5, .int (5 : Int32)), (6, .int (2 : Int32))]) B dX5_digestOfEdges_37 4 rfl (by decide) (by decide) [1, 2, 3, 4, 0] rfl ?_
  refine g_goto (tgt := 15) B dX5_digestOfEdges_40 (by decide) ?_
  refine g_iload B dX5_digestOfEdges_15 4 rfl ?_
  refine g_iconst (v := (2 : Int32)) B dX5_digestOfEdges_17 (by decide) ?_
  refine g_icmp_gt (tgt := 43) B dX5_digestOfEdges_18 (by decide) (fun c46 => absurd c46 (by decide)) (fun _ => ?_)
  refine g_lload_n B dX5_digestOfEdges_21 2 rfl ?_
  refine g_ldc2 (v := (31 : Int64)) B dX5_digestOfEdges_22 (List.mem_of_getElem? (i := 1) rfl) ?_
  refine g_lmul (v := (-3738948552719934867 : Int64)) B dX5_digestOfEdges_25 (by decide) ?_
  refine g_aload_n B dX5_digestOfEdges_26 0 rfl ?_
  refine g_iload B dX5_digestOfEdges_27 3 rfl ?_
  refine g_iload B dX5_digestOfEdges_29 4 rfl ?_
  refine g_callP (g_runV (q0 := 0) (ci := 5) B hK rfl rfl (PM.met (k_ofEdge_v2 l (D := D) (cI := cI) (cL := cL) (cZ := cZ) hb hp ht hg ha hq a0 a1 a2 a3 5 (by omega))) (gPp.pre (av := [.ref hb, .int (5 : Int32), .int (2 : Int32)]) (wc := [(hb, .inr (5, [.ref hp, .ref ht, .ref hg, .ref ha, .ref hq])), (ha, .inr (0, [.ref a0, .ref a1, .ref a2, .ref a3, .int (0 : Int32), .long (0 : Int64)]))]) hK hN [0, 1] rfl (by decide)) gX5_digestOfEdges_X5_ofEdge rfl rfl kd_X5_ofEdge ⟨by decide, by decide⟩ (st := [.long (-3738948552719934867 : Int64)]) rfl (Nat.le_of_ble_eq_true rfl) dX5_digestOfEdges_31 ⟨by decide, by decide⟩) (fun u hu => ?_)
  refine g_i2l (v := (-1 : Int64)) B dX5_digestOfEdges_34 (by decide) ?_
  refine g_ladd (v := (-3738948552719934868 : Int64)) B dX5_digestOfEdges_35 (by decide) ?_
  refine g_lstore_n (lv' := [(0, .ref hb), (1, .long (4895594554911372 : Int64)), (3, .long (-3738948552719934868 : Int64)), (5, .int (5 : Int32)), (6, .int (2 : Int32))]) B dX5_digestOfEdges_36 rfl (by decide) [1, 2, 0, 3, 4] rfl ?_
  refine g_iinc (lv' := [(0, .ref hb), (1, .long (4895594554911372 : Int64)), (3, .long (-3738948552719934868 : Int64)), (5, .int (5 : Int32)), (6, .int (3 : Int32))]) B dX5_digestOfEdges_37 4 rfl (by decide) (by decide) [1, 2, 3, 4, 0] rfl ?_
  refine g_goto (tgt := 15) B dX5_digestOfEdges_40 (by decide) ?_
  refine g_iload B dX5_digestOfEdges_15 4 rfl ?_
  refine g_iconst (v := (2 : Int32)) B dX5_digestOfEdges_17 (by decide) ?_
  refine g_icmp_gt (tgt := 43) B dX5_digestOfEdges_18 (by decide) (fun _ => ?_) (fun c48 => absurd (by decide) c48)
  refine g_iinc (lv' := [(0, .ref hb), (1, .long (4895594554911372 : Int64)), (3, .long (-3738948552719934868 : Int64)), (5, .int (6 : Int32)), (6, .int (3 : Int32))]) B dX5_digestOfEdges_43 3 rfl (by decide) (by decide) [1, 2, 3, 0, 4] rfl ?_
  refine g_goto (tgt := 5) B dX5_digestOfEdges_46 (by decide) ?_
  refine g_iload B dX5_digestOfEdges_5 3 rfl ?_
  refine g_bipush (v := (24 : Int32)) B dX5_digestOfEdges_7 (by decide) ?_
  refine g_icmp_ge (tgt := 49) B dX5_digestOfEdges_9 (by decide) (fun c49 => absurd c49 (by decide)) (fun _ => ?_)
  refine g_iconst (v := (0 : Int32)) B dX5_digestOfEdges_12 (by decide) ?_
  refine g_istore (lv' := [(0, .ref hb), (1, .long (4895594554911372 : Int64)), (3, .long (-3738948552719934868 : Int64)), (5, .int (6 : Int32)), (6, .int (0 : Int32))]) B dX5_digestOfEdges_13 (by decide) [1, 2, 3, 4, 0] rfl ?_
  refine g_iload B dX5_digestOfEdges_15 4 rfl ?_
  refine g_iconst (v := (2 : Int32)) B dX5_digestOfEdges_17 (by decide) ?_
  refine g_icmp_gt (tgt := 43) B dX5_digestOfEdges_18 (by decide) (fun c50 => absurd c50 (by decide)) (fun _ => ?_)
  refine g_lload_n B dX5_digestOfEdges_21 2 rfl ?_
  refine g_ldc2 (v := (31 : Int64)) B dX5_digestOfEdges_22 (List.mem_of_getElem? (i := 1) rfl) ?_
  refine g_lmul (v := (-5226940692060671212 : Int64)) B dX5_digestOfEdges_25 (by decide) ?_
  refine g_aload_n B dX5_digestOfEdges_26 0 rfl ?_
  refine g_iload B dX5_digestOfEdges_27 3 rfl ?_
  refine g_iload B dX5_digestOfEdges_29 4 rfl ?_
  refine g_callP (g_runV (q0 := 0) (ci := 5) B hK rfl rfl (PM.met (k_ofEdge_v0 l (D := D) (cI := cI) (cL := cL) (cZ := cZ) hb hp ht hg ha hq a0 a1 a2 a3 6 (by omega))) (gPp.pre (av := [.ref hb, .int (6 : Int32), .int (0 : Int32)]) (wc := [(hb, .inr (5, [.ref hp, .ref ht, .ref hg, .ref ha, .ref hq])), (ha, .inr (0, [.ref a0, .ref a1, .ref a2, .ref a3, .int (0 : Int32), .long (0 : Int64)]))]) hK hN [0, 1] rfl (by decide)) gX5_digestOfEdges_X5_ofEdge rfl rfl kd_X5_ofEdge ⟨by decide, by decide⟩ (st := [.long (-5226940692060671212 : Int64)]) rfl (Nat.le_of_ble_eq_true rfl) dX5_digestOfEdges_31 ⟨by decide, by decide⟩) (fun u hu => ?_)
  refine g_i2l (v := (0 : Int64)) B dX5_digestOfEdges_34 (by decide) ?_
  refine g_ladd (v := (-5226940692060671212 : Int64)) B dX5_digestOfEdges_35 (by decide) ?_
  refine g_lstore_n (lv' := [(0, .ref hb), (1, .long (4895594554911372 : Int64)), (3, .long (-5226940692060671212 : Int64)), (5, .int (6 : Int32)), (6, .int (0 : Int32))]) B dX5_digestOfEdges_36 rfl (by decide) [1, 2, 0, 3, 4] rfl ?_
  refine g_iinc (lv' := [(0, .ref hb), (1, .long (4895594554911372 : Int64)), (3, .long (-5226940692060671212 : Int64)), (5, .int (6 : Int32)), (6, .int (1 : Int32))]) B dX5_digestOfEdges_37 4 rfl (by decide) (by decide) [1, 2, 3, 4, 0] rfl ?_
  refine g_goto (tgt := 15) B dX5_digestOfEdges_40 (by decide) ?_
  refine g_iload B dX5_digestOfEdges_15 4 rfl ?_
  refine g_iconst (v := (2 : Int32)) B dX5_digestOfEdges_17 (by decide) ?_
  refine g_icmp_gt (tgt := 43) B dX5_digestOfEdges_18 (by decide) (fun c52 => absurd c52 (by decide)) (fun _ => ?_)
  refine g_lload_n B dX5_digestOfEdges_21 2 rfl ?_
  refine g_ldc2 (v := (31 : Int64)) B dX5_digestOfEdges_22 (List.mem_of_getElem? (i := 1) rfl) ?_
  refine g_lmul (v := (3985535209505156972 : Int64)) B dX5_digestOfEdges_25 (by decide) ?_
  refine g_aload_n B dX5_digestOfEdges_26 0 rfl ?_
  refine g_iload B dX5_digestOfEdges_27 3 rfl ?_
  refine g_iload B dX5_digestOfEdges_29 4 rfl ?_
  refine g_callP (g_runV (q0 := 0) (ci := 5) B hK rfl rfl (PM.met (k_ofEdge_v1 l (D := D) (cI := cI) (cL := cL) (cZ := cZ) hb hp ht hg ha hq a0 a1 a2 a3 6 (by omega))) (gPp.pre (av := [.ref hb, .int (6 : Int32), .int (1 : Int32)]) (wc := [(hb, .inr (5, [.ref hp, .ref ht, .ref hg, .ref ha, .ref hq])), (ha, .inr (0, [.ref a0, .ref a1, .ref a2, .ref a3, .int (0 : Int32), .long (0 : Int64)]))]) hK hN [0, 1] rfl (by decide)) gX5_digestOfEdges_X5_ofEdge rfl rfl kd_X5_ofEdge ⟨by decide, by decide⟩ (st := [.long (3985535209505156972 : Int64)]) rfl (Nat.le_of_ble_eq_true rfl) dX5_digestOfEdges_31 ⟨by decide, by decide⟩) (fun u hu => ?_)
  refine g_i2l (v := (0 : Int64)) B dX5_digestOfEdges_34 (by decide) ?_
  refine g_ladd (v := (3985535209505156972 : Int64)) B dX5_digestOfEdges_35 (by decide) ?_
  refine g_lstore_n (lv' := [(0, .ref hb), (1, .long (4895594554911372 : Int64)), (3, .long (3985535209505156972 : Int64)), (5, .int (6 : Int32)), (6, .int (1 : Int32))]) B dX5_digestOfEdges_36 rfl (by decide) [1, 2, 0, 3, 4] rfl ?_
  refine g_iinc (lv' := [(0, .ref hb), (1, .long (4895594554911372 : Int64)), (3, .long (3985535209505156972 : Int64)), (5, .int (6 : Int32)), (6, .int (2 : Int32))]) B dX5_digestOfEdges_37 4 rfl (by decide) (by decide) [1, 2, 3, 4, 0] rfl ?_
  refine g_goto (tgt := 15) B dX5_digestOfEdges_40 (by decide) ?_
  refine g_iload B dX5_digestOfEdges_15 4 rfl ?_
  refine g_iconst (v := (2 : Int32)) B dX5_digestOfEdges_17 (by decide) ?_
  refine g_icmp_gt (tgt := 43) B dX5_digestOfEdges_18 (by decide) (fun c54 => absurd c54 (by decide)) (fun _ => ?_)
  refine g_lload_n B dX5_digestOfEdges_21 2 rfl ?_
  refine g_ldc2 (v := (31 : Int64)) B dX5_digestOfEdges_22 (List.mem_of_getElem? (i := 1) rfl) ?_
  refine g_lmul (v := (-5575617021306995180 : Int64)) B dX5_digestOfEdges_25 (by decide) ?_
  refine g_aload_n B dX5_digestOfEdges_26 0 rfl ?_
  refine g_iload B dX5_digestOfEdges_27 3 rfl ?_
  refine g_iload B dX5_digestOfEdges_29 4 rfl ?_
  refine g_callP (g_runV (q0 := 0) (ci := 5) B hK rfl rfl (PM.met (k_ofEdge_v2 l (D := D) (cI := cI) (cL := cL) (cZ := cZ) hb hp ht hg ha hq a0 a1 a2 a3 6 (by omega))) (gPp.pre (av := [.ref hb, .int (6 : Int32), .int (2 : Int32)]) (wc := [(hb, .inr (5, [.ref hp, .ref ht, .ref hg, .ref ha, .ref hq])), (ha, .inr (0, [.ref a0, .ref a1, .ref a2, .ref a3, .int (0 : Int32), .long (0 : Int64)]))]) hK hN [0, 1] rfl (by decide)) gX5_digestOfEdges_X5_ofEdge rfl rfl kd_X5_ofEdge ⟨by decide, by decide⟩ (st := [.long (-5575617021306995180 : Int64)]) rfl (Nat.le_of_ble_eq_true rfl) dX5_digestOfEdges_31 ⟨by decide, by decide⟩) (fun u hu => ?_)
  refine g_i2l (v := (-1 : Int64)) B dX5_digestOfEdges_34 (by decide) ?_
  refine g_ladd (v := (-5575617021306995181 : Int64)) B dX5_digestOfEdges_35 (by decide) ?_
  refine g_lstore_n (lv' := [(0, .ref hb), (1, .long (4895594554911372 : Int64)), (3, .long (-5575617021306995181 : Int64)), (5, .int (6 : Int32)), (6, .int (2 : Int32))]) B dX5_digestOfEdges_36 rfl (by decide) [1, 2, 0, 3, 4] rfl ?_
  refine g_iinc (lv' := [(0, .ref hb), (1, .long (4895594554911372 : Int64)), (3, .long (-5575617021306995181 : Int64)), (5, .int (6 : Int32)), (6, .int (3 : Int32))]) B dX5_digestOfEdges_37 4 rfl (by decide) (by decide) [1, 2, 3, 4, 0] rfl ?_
  refine g_goto (tgt := 15) B dX5_digestOfEdges_40 (by decide) ?_
  refine g_iload B dX5_digestOfEdges_15 4 rfl ?_
  refine g_iconst (v := (2 : Int32)) B dX5_digestOfEdges_17 (by decide) ?_
  refine g_icmp_gt (tgt := 43) B dX5_digestOfEdges_18 (by decide) (fun _ => ?_) (fun c56 => absurd (by decide) c56)
  refine g_iinc (lv' := [(0, .ref hb), (1, .long (4895594554911372 : Int64)), (3, .long (-5575617021306995181 : Int64)), (5, .int (7 : Int32)), (6, .int (3 : Int32))]) B dX5_digestOfEdges_43 3 rfl (by decide) (by decide) [1, 2, 3, 0, 4] rfl ?_
  refine g_goto (tgt := 5) B dX5_digestOfEdges_46 (by decide) ?_
  refine g_iload B dX5_digestOfEdges_5 3 rfl ?_
  refine g_bipush (v := (24 : Int32)) B dX5_digestOfEdges_7 (by decide) ?_
  refine g_icmp_ge (tgt := 49) B dX5_digestOfEdges_9 (by decide) (fun c57 => absurd c57 (by decide)) (fun _ => ?_)
  refine g_iconst (v := (0 : Int32)) B dX5_digestOfEdges_12 (by decide) ?_
  refine g_istore (lv' := [(0, .ref hb), (1, .long (4895594554911372 : Int64)), (3, .long (-5575617021306995181 : Int64)), (5, .int (7 : Int32)), (6, .int (0 : Int32))]) B dX5_digestOfEdges_13 (by decide) [1, 2, 3, 4, 0] rfl ?_
  refine g_iload B dX5_digestOfEdges_15 4 rfl ?_
  refine g_iconst (v := (2 : Int32)) B dX5_digestOfEdges_17 (by decide) ?_
  refine g_icmp_gt (tgt := 43) B dX5_digestOfEdges_18 (by decide) (fun c58 => absurd c58 (by decide)) (fun _ => ?_)
  refine g_lload_n B dX5_digestOfEdges_21 2 rfl ?_
  refine g_ldc2 (v := (31 : Int64)) B dX5_digestOfEdges_22 (List.mem_of_getElem? (i := 1) rfl) ?_
  refine g_lmul (v := (-6823430997130886067 : Int64)) B dX5_digestOfEdges_25 (by decide) ?_
  refine g_aload_n B dX5_digestOfEdges_26 0 rfl ?_
  refine g_iload B dX5_digestOfEdges_27 3 rfl ?_
  refine g_iload B dX5_digestOfEdges_29 4 rfl ?_
  refine g_callP (g_runV (q0 := 0) (ci := 5) B hK rfl rfl (PM.met (k_ofEdge_v0 l (D := D) (cI := cI) (cL := cL) (cZ := cZ) hb hp ht hg ha hq a0 a1 a2 a3 7 (by omega))) (gPp.pre (av := [.ref hb, .int (7 : Int32), .int (0 : Int32)]) (wc := [(hb, .inr (5, [.ref hp, .ref ht, .ref hg, .ref ha, .ref hq])), (ha, .inr (0, [.ref a0, .ref a1, .ref a2, .ref a3, .int (0 : Int32), .long (0 : Int64)]))]) hK hN [0, 1] rfl (by decide)) gX5_digestOfEdges_X5_ofEdge rfl rfl kd_X5_ofEdge ⟨by decide, by decide⟩ (st := [.long (-6823430997130886067 : Int64)]) rfl (Nat.le_of_ble_eq_true rfl) dX5_digestOfEdges_31 ⟨by decide, by decide⟩) (fun u hu => ?_)
  refine g_i2l (v := (0 : Int64)) B dX5_digestOfEdges_34 (by decide) ?_
  refine g_ladd (v := (-6823430997130886067 : Int64)) B dX5_digestOfEdges_35 (by decide) ?_
  refine g_lstore_n (lv' := [(0, .ref hb), (1, .long (4895594554911372 : Int64)), (3, .long (-6823430997130886067 : Int64)), (5, .int (7 : Int32)), (6, .int (0 : Int32))]) B dX5_digestOfEdges_36 rfl (by decide) [1, 2, 0, 3, 4] rfl ?_
  refine g_iinc (lv' := [(0, .ref hb), (1, .long (4895594554911372 : Int64)), (3, .long (-6823430997130886067 : Int64)), (5, .int (7 : Int32)), (6, .int (1 : Int32))]) B dX5_digestOfEdges_37 4 rfl (by decide) (by decide) [1, 2, 3, 4, 0] rfl ?_
  refine g_goto (tgt := 15) B dX5_digestOfEdges_40 (by decide) ?_
  refine g_iload B dX5_digestOfEdges_15 4 rfl ?_
  refine g_iconst (v := (2 : Int32)) B dX5_digestOfEdges_17 (by decide) ?_
  refine g_icmp_gt (tgt := 43) B dX5_digestOfEdges_18 (by decide) (fun c60 => absurd c60 (by decide)) (fun _ => ?_)
  refine g_lload_n B dX5_digestOfEdges_21 2 rfl ?_
  refine g_ldc2 (v := (31 : Int64)) B dX5_digestOfEdges_22 (List.mem_of_getElem? (i := 1) rfl) ?_
  refine g_lmul (v := (-8612176100252400301 : Int64)) B dX5_digestOfEdges_25 (by decide) ?_
  refine g_aload_n B dX5_digestOfEdges_26 0 rfl ?_
  refine g_iload B dX5_digestOfEdges_27 3 rfl ?_
  refine g_iload B dX5_digestOfEdges_29 4 rfl ?_
  refine g_callP (g_runV (q0 := 0) (ci := 5) B hK rfl rfl (PM.met (k_ofEdge_v1 l (D := D) (cI := cI) (cL := cL) (cZ := cZ) hb hp ht hg ha hq a0 a1 a2 a3 7 (by omega))) (gPp.pre (av := [.ref hb, .int (7 : Int32), .int (1 : Int32)]) (wc := [(hb, .inr (5, [.ref hp, .ref ht, .ref hg, .ref ha, .ref hq])), (ha, .inr (0, [.ref a0, .ref a1, .ref a2, .ref a3, .int (0 : Int32), .long (0 : Int64)]))]) hK hN [0, 1] rfl (by decide)) gX5_digestOfEdges_X5_ofEdge rfl rfl kd_X5_ofEdge ⟨by decide, by decide⟩ (st := [.long (-8612176100252400301 : Int64)]) rfl (Nat.le_of_ble_eq_true rfl) dX5_digestOfEdges_31 ⟨by decide, by decide⟩) (fun u hu => ?_)
  refine g_i2l (v := (0 : Int64)) B dX5_digestOfEdges_34 (by decide) ?_
  refine g_ladd (v := (-8612176100252400301 : Int64)) B dX5_digestOfEdges_35 (by decide) ?_
  refine g_lstore_n (lv' := [(0, .ref hb), (1, .long (4895594554911372 : Int64)), (3, .long (-8612176100252400301 : Int64)), (5, .int (7 : Int32)), (6, .int (1 : Int32))]) B dX5_digestOfEdges_36 rfl (by decide) [1, 2, 0, 3, 4] rfl ?_
  refine g_iinc (lv' := [(0, .ref hb), (1, .long (4895594554911372 : Int64)), (3, .long (-8612176100252400301 : Int64)), (5, .int (7 : Int32)), (6, .int (2 : Int32))]) B dX5_digestOfEdges_37 4 rfl (by decide) (by decide) [1, 2, 3, 4, 0] rfl ?_
  refine g_goto (tgt := 15) B dX5_digestOfEdges_40 (by decide) ?_
  refine g_iload B dX5_digestOfEdges_15 4 rfl ?_
  refine g_iconst (v := (2 : Int32)) B dX5_digestOfEdges_17 (by decide) ?_
  refine g_icmp_gt (tgt := 43) B dX5_digestOfEdges_18 (by decide) (fun c62 => absurd c62 (by decide)) (fun _ => ?_)
  refine g_lload_n B dX5_digestOfEdges_21 2 rfl ?_
  refine g_ldc2 (v := (31 : Int64)) B dX5_digestOfEdges_22 (List.mem_of_getElem? (i := 1) rfl) ?_
  refine g_lmul (v := (-8723042075890686707 : Int64)) B dX5_digestOfEdges_25 (by decide) ?_
  refine g_aload_n B dX5_digestOfEdges_26 0 rfl ?_
  refine g_iload B dX5_digestOfEdges_27 3 rfl ?_
  refine g_iload B dX5_digestOfEdges_29 4 rfl ?_
  refine g_callP (g_runV (q0 := 0) (ci := 5) B hK rfl rfl (PM.met (k_ofEdge_v2 l (D := D) (cI := cI) (cL := cL) (cZ := cZ) hb hp ht hg ha hq a0 a1 a2 a3 7 (by omega))) (gPp.pre (av := [.ref hb, .int (7 : Int32), .int (2 : Int32)]) (wc := [(hb, .inr (5, [.ref hp, .ref ht, .ref hg, .ref ha, .ref hq])), (ha, .inr (0, [.ref a0, .ref a1, .ref a2, .ref a3, .int (0 : Int32), .long (0 : Int64)]))]) hK hN [0, 1] rfl (by decide)) gX5_digestOfEdges_X5_ofEdge rfl rfl kd_X5_ofEdge ⟨by decide, by decide⟩ (st := [.long (-8723042075890686707 : Int64)]) rfl (Nat.le_of_ble_eq_true rfl) dX5_digestOfEdges_31 ⟨by decide, by decide⟩) (fun u hu => ?_)
  refine g_i2l (v := (-1 : Int64)) B dX5_digestOfEdges_34 (by decide) ?_
  refine g_ladd (v := (-8723042075890686708 : Int64)) B dX5_digestOfEdges_35 (by decide) ?_
  refine g_lstore_n (lv' := [(0, .ref hb), (1, .long (4895594554911372 : Int64)), (3, .long (-8723042075890686708 : Int64)), (5, .int (7 : Int32)), (6, .int (2 : Int32))]) B dX5_digestOfEdges_36 rfl (by decide) [1, 2, 0, 3, 4] rfl ?_
  refine g_iinc (lv' := [(0, .ref hb), (1, .long (4895594554911372 : Int64)), (3, .long (-8723042075890686708 : Int64)), (5, .int (7 : Int32)), (6, .int (3 : Int32))]) B dX5_digestOfEdges_37 4 rfl (by decide) (by decide) [1, 2, 3, 4, 0] rfl ?_
  refine g_goto (tgt := 15) B dX5_digestOfEdges_40 (by decide) ?_
  refine g_iload B dX5_digestOfEdges_15 4 rfl ?_
  refine g_iconst (v := (2 : Int32)) B dX5_digestOfEdges_17 (by decide) ?_
  refine g_icmp_gt (tgt := 43) B dX5_digestOfEdges_18 (by decide) (fun _ => ?_) (fun c64 => absurd (by decide) c64)
  refine g_iinc (lv' := [(0, .ref hb), (1, .long (4895594554911372 : Int64)), (3, .long (-8723042075890686708 : Int64)), (5, .int (8 : Int32)), (6, .int (3 : Int32))]) B dX5_digestOfEdges_43 3 rfl (by decide) (by decide) [1, 2, 3, 0, 4] rfl ?_
  refine g_goto (tgt := 5) B dX5_digestOfEdges_46 (by decide) ?_
  refine g_iload B dX5_digestOfEdges_5 3 rfl ?_
  refine g_bipush (v := (24 : Int32)) B dX5_digestOfEdges_7 (by decide) ?_
  refine g_icmp_ge (tgt := 49) B dX5_digestOfEdges_9 (by decide) (fun c65 => absurd c65 (by decide)) (fun _ => ?_)
  refine g_iconst (v := (0 : Int32)) B dX5_digestOfEdges_12 (by decide) ?_
  refine g_istore (lv' := [(0, .ref hb), (1, .long (4895594554911372 : Int64)), (3, .long (-8723042075890686708 : Int64)), (5, .int (8 : Int32)), (6, .int (0 : Int32))]) B dX5_digestOfEdges_13 (by decide) [1, 2, 3, 4, 0] rfl ?_
  refine g_iload B dX5_digestOfEdges_15 4 rfl ?_
  refine g_iconst (v := (2 : Int32)) B dX5_digestOfEdges_17 (by decide) ?_
  refine g_icmp_gt (tgt := 43) B dX5_digestOfEdges_18 (by decide) (fun c66 => absurd c66 (by decide)) (fun _ => ?_)
  refine g_lload_n B dX5_digestOfEdges_21 2 rfl ?_
  refine g_ldc2 (v := (31 : Int64)) B dX5_digestOfEdges_22 (List.mem_of_getElem? (i := 1) rfl) ?_
  refine g_lmul (v := (6286856753031986292 : Int64)) B dX5_digestOfEdges_25 (by decide) ?_
  refine g_aload_n B dX5_digestOfEdges_26 0 rfl ?_
  refine g_iload B dX5_digestOfEdges_27 3 rfl ?_
  refine g_iload B dX5_digestOfEdges_29 4 rfl ?_
  refine g_callP (g_runV (q0 := 0) (ci := 5) B hK rfl rfl (PM.met (k_ofEdge_v0 l (D := D) (cI := cI) (cL := cL) (cZ := cZ) hb hp ht hg ha hq a0 a1 a2 a3 8 (by omega))) (gPp.pre (av := [.ref hb, .int (8 : Int32), .int (0 : Int32)]) (wc := [(hb, .inr (5, [.ref hp, .ref ht, .ref hg, .ref ha, .ref hq])), (ha, .inr (0, [.ref a0, .ref a1, .ref a2, .ref a3, .int (0 : Int32), .long (0 : Int64)]))]) hK hN [0, 1] rfl (by decide)) gX5_digestOfEdges_X5_ofEdge rfl rfl kd_X5_ofEdge ⟨by decide, by decide⟩ (st := [.long (6286856753031986292 : Int64)]) rfl (Nat.le_of_ble_eq_true rfl) dX5_digestOfEdges_31 ⟨by decide, by decide⟩) (fun u hu => ?_)
  refine g_i2l (v := (0 : Int64)) B dX5_digestOfEdges_34 (by decide) ?_
  refine g_ladd (v := (6286856753031986292 : Int64)) B dX5_digestOfEdges_35 (by decide) ?_
  refine g_lstore_n (lv' := [(0, .ref hb), (1, .long (4895594554911372 : Int64)), (3, .long (6286856753031986292 : Int64)), (5, .int (8 : Int32)), (6, .int (0 : Int32))]) B dX5_digestOfEdges_36 rfl (by decide) [1, 2, 0, 3, 4] rfl ?_
  refine g_iinc (lv' := [(0, .ref hb), (1, .long (4895594554911372 : Int64)), (3, .long (6286856753031986292 : Int64)), (5, .int (8 : Int32)), (6, .int (1 : Int32))]) B dX5_digestOfEdges_37 4 rfl (by decide) (by decide) [1, 2, 3, 4, 0] rfl ?_
  refine g_goto (tgt := 15) B dX5_digestOfEdges_40 (by decide) ?_
  refine g_iload B dX5_digestOfEdges_15 4 rfl ?_
  refine g_iconst (v := (2 : Int32)) B dX5_digestOfEdges_17 (by decide) ?_
  refine g_icmp_gt (tgt := 43) B dX5_digestOfEdges_18 (by decide) (fun c68 => absurd c68 (by decide)) (fun _ => ?_)
  refine g_lload_n B dX5_digestOfEdges_21 2 rfl ?_
  refine g_ldc2 (v := (31 : Int64)) B dX5_digestOfEdges_22 (List.mem_of_getElem? (i := 1) rfl) ?_
  refine g_lmul (v := (-8021625466813492724 : Int64)) B dX5_digestOfEdges_25 (by decide) ?_
  refine g_aload_n B dX5_digestOfEdges_26 0 rfl ?_
  refine g_iload B dX5_digestOfEdges_27 3 rfl ?_
  refine g_iload B dX5_digestOfEdges_29 4 rfl ?_
  refine g_callP (g_runV (q0 := 0) (ci := 5) B hK rfl rfl (PM.met (k_ofEdge_v1 l (D := D) (cI := cI) (cL := cL) (cZ := cZ) hb hp ht hg ha hq a0 a1 a2 a3 8 (by omega))) (gPp.pre (av := [.ref hb, .int (8 : Int32), .int (1 : Int32)]) (wc := [(hb, .inr (5, [.ref hp, .ref ht, .ref hg, .ref ha, .ref hq])), (ha, .inr (0, [.ref a0, .ref a1, .ref a2, .ref a3, .int (0 : Int32), .long (0 : Int64)]))]) hK hN [0, 1] rfl (by decide)) gX5_digestOfEdges_X5_ofEdge rfl rfl kd_X5_ofEdge ⟨by decide, by decide⟩ (st := [.long (-8021625466813492724 : Int64)]) rfl (Nat.le_of_ble_eq_true rfl) dX5_digestOfEdges_31 ⟨by decide, by decide⟩) (fun u hu => ?_)
  refine g_i2l (v := (0 : Int64)) B dX5_digestOfEdges_34 (by decide) ?_
  refine g_ladd (v := (-8021625466813492724 : Int64)) B dX5_digestOfEdges_35 (by decide) ?_
  refine g_lstore_n (lv' := [(0, .ref hb), (1, .long (4895594554911372 : Int64)), (3, .long (-8021625466813492724 : Int64)), (5, .int (8 : Int32)), (6, .int (1 : Int32))]) B dX5_digestOfEdges_36 rfl (by decide) [1, 2, 0, 3, 4] rfl ?_
  refine g_iinc (lv' := [(0, .ref hb), (1, .long (4895594554911372 : Int64)), (3, .long (-8021625466813492724 : Int64)), (5, .int (8 : Int32)), (6, .int (2 : Int32))]) B dX5_digestOfEdges_37 4 rfl (by decide) (by decide) [1, 2, 3, 4, 0] rfl ?_
  refine g_goto (tgt := 15) B dX5_digestOfEdges_40 (by decide) ?_
  refine g_iload B dX5_digestOfEdges_15 4 rfl ?_
  refine g_iconst (v := (2 : Int32)) B dX5_digestOfEdges_17 (by decide) ?_
  refine g_icmp_gt (tgt := 43) B dX5_digestOfEdges_18 (by decide) (fun c70 => absurd c70 (by decide)) (fun _ => ?_)
  refine g_lload_n B dX5_digestOfEdges_21 2 rfl ?_
  refine g_ldc2 (v := (31 : Int64)) B dX5_digestOfEdges_22 (List.mem_of_getElem? (i := 1) rfl) ?_
  refine g_lmul (v := (-8862716512994103436 : Int64)) B dX5_digestOfEdges_25 (by decide) ?_
  refine g_aload_n B dX5_digestOfEdges_26 0 rfl ?_
  refine g_iload B dX5_digestOfEdges_27 3 rfl ?_
  refine g_iload B dX5_digestOfEdges_29 4 rfl ?_
  refine g_callP (g_runV (q0 := 0) (ci := 5) B hK rfl rfl (PM.met (k_ofEdge_v2 l (D := D) (cI := cI) (cL := cL) (cZ := cZ) hb hp ht hg ha hq a0 a1 a2 a3 8 (by omega))) (gPp.pre (av := [.ref hb, .int (8 : Int32), .int (2 : Int32)]) (wc := [(hb, .inr (5, [.ref hp, .ref ht, .ref hg, .ref ha, .ref hq])), (ha, .inr (0, [.ref a0, .ref a1, .ref a2, .ref a3, .int (0 : Int32), .long (0 : Int64)]))]) hK hN [0, 1] rfl (by decide)) gX5_digestOfEdges_X5_ofEdge rfl rfl kd_X5_ofEdge ⟨by decide, by decide⟩ (st := [.long (-8862716512994103436 : Int64)]) rfl (Nat.le_of_ble_eq_true rfl) dX5_digestOfEdges_31 ⟨by decide, by decide⟩) (fun u hu => ?_)
  refine g_i2l (v := (-1 : Int64)) B dX5_digestOfEdges_34 (by decide) ?_
  refine g_ladd (v := (-8862716512994103437 : Int64)) B dX5_digestOfEdges_35 (by decide) ?_
  refine g_lstore_n (lv' := [(0, .ref hb), (1, .long (4895594554911372 : Int64)), (3, .long (-8862716512994103437 : Int64)), (5, .int (8 : Int32)), (6, .int (2 : Int32))]) B dX5_digestOfEdges_36 rfl (by decide) [1, 2, 0, 3, 4] rfl ?_
  refine g_iinc (lv' := [(0, .ref hb), (1, .long (4895594554911372 : Int64)), (3, .long (-8862716512994103437 : Int64)), (5, .int (8 : Int32)), (6, .int (3 : Int32))]) B dX5_digestOfEdges_37 4 rfl (by decide) (by decide) [1, 2, 3, 4, 0] rfl ?_
  refine g_goto (tgt := 15) B dX5_digestOfEdges_40 (by decide) ?_
  refine g_iload B dX5_digestOfEdges_15 4 rfl ?_
  refine g_iconst (v := (2 : Int32)) B dX5_digestOfEdges_17 (by decide) ?_
  refine g_icmp_gt (tgt := 43) B dX5_digestOfEdges_18 (by decide) (fun _ => ?_) (fun c72 => absurd (by decide) c72)
  refine g_iinc (lv' := [(0, .ref hb), (1, .long (4895594554911372 : Int64)), (3, .long (-8862716512994103437 : Int64)), (5, .int (9 : Int32)), (6, .int (3 : Int32))]) B dX5_digestOfEdges_43 3 rfl (by decide) (by decide) [1, 2, 3, 0, 4] rfl ?_
  refine g_goto (tgt := 5) B dX5_digestOfEdges_46 (by decide) ?_
  refine g_iload B dX5_digestOfEdges_5 3 rfl ?_
  refine g_bipush (v := (24 : Int32)) B dX5_digestOfEdges_7 (by decide) ?_
  refine g_icmp_ge (tgt := 49) B dX5_digestOfEdges_9 (by decide) (fun c73 => absurd c73 (by decide)) (fun _ => ?_)
  refine g_iconst (v := (0 : Int32)) B dX5_digestOfEdges_12 (by decide) ?_
  refine g_istore (lv' := [(0, .ref hb), (1, .long (4895594554911372 : Int64)), (3, .long (-8862716512994103437 : Int64)), (5, .int (9 : Int32)), (6, .int (0 : Int32))]) B dX5_digestOfEdges_13 (by decide) [1, 2, 3, 4, 0] rfl ?_
  refine g_iload B dX5_digestOfEdges_15 4 rfl ?_
  refine g_iconst (v := (2 : Int32)) B dX5_digestOfEdges_17 (by decide) ?_
  refine g_icmp_gt (tgt := 43) B dX5_digestOfEdges_18 (by decide) (fun c74 => absurd c74 (by decide)) (fun _ => ?_)
  refine g_lload_n B dX5_digestOfEdges_21 2 rfl ?_
  refine g_ldc2 (v := (31 : Int64)) B dX5_digestOfEdges_22 (List.mem_of_getElem? (i := 1) rfl) ?_
  refine g_lmul (v := (1956949202826067693 : Int64)) B dX5_digestOfEdges_25 (by decide) ?_
  refine g_aload_n B dX5_digestOfEdges_26 0 rfl ?_
  refine g_iload B dX5_digestOfEdges_27 3 rfl ?_
  refine g_iload B dX5_digestOfEdges_29 4 rfl ?_
  refine g_callP (g_runV (q0 := 0) (ci := 5) B hK rfl rfl (PM.met (k_ofEdge_v0 l (D := D) (cI := cI) (cL := cL) (cZ := cZ) hb hp ht hg ha hq a0 a1 a2 a3 9 (by omega))) (gPp.pre (av := [.ref hb, .int (9 : Int32), .int (0 : Int32)]) (wc := [(hb, .inr (5, [.ref hp, .ref ht, .ref hg, .ref ha, .ref hq])), (ha, .inr (0, [.ref a0, .ref a1, .ref a2, .ref a3, .int (0 : Int32), .long (0 : Int64)]))]) hK hN [0, 1] rfl (by decide)) gX5_digestOfEdges_X5_ofEdge rfl rfl kd_X5_ofEdge ⟨by decide, by decide⟩ (st := [.long (1956949202826067693 : Int64)]) rfl (Nat.le_of_ble_eq_true rfl) dX5_digestOfEdges_31 ⟨by decide, by decide⟩) (fun u hu => ?_)
  refine g_i2l (v := (0 : Int64)) B dX5_digestOfEdges_34 (by decide) ?_
  refine g_ladd (v := (1956949202826067693 : Int64)) B dX5_digestOfEdges_35 (by decide) ?_
  refine g_lstore_n (lv' := [(0, .ref hb), (1, .long (4895594554911372 : Int64)), (3, .long (1956949202826067693 : Int64)), (5, .int (9 : Int32)), (6, .int (0 : Int32))]) B dX5_digestOfEdges_36 rfl (by decide) [1, 2, 0, 3, 4] rfl ?_
  refine g_iinc (lv' := [(0, .ref hb), (1, .long (4895594554911372 : Int64)), (3, .long (1956949202826067693 : Int64)), (5, .int (9 : Int32)), (6, .int (1 : Int32))]) B dX5_digestOfEdges_37 4 rfl (by decide) (by decide) [1, 2, 3, 4, 0] rfl ?_
  refine g_goto (tgt := 15) B dX5_digestOfEdges_40 (by decide) ?_
  refine g_iload B dX5_digestOfEdges_15 4 rfl ?_
  refine g_iconst (v := (2 : Int32)) B dX5_digestOfEdges_17 (by decide) ?_
  refine g_icmp_gt (tgt := 43) B dX5_digestOfEdges_18 (by decide) (fun c76 => absurd c76 (by decide)) (fun _ => ?_)
  refine g_lload_n B dX5_digestOfEdges_21 2 rfl ?_
  refine g_ldc2 (v := (31 : Int64)) B dX5_digestOfEdges_22 (List.mem_of_getElem? (i := 1) rfl) ?_
  refine g_lmul (v := (5325193066479443635 : Int64)) B dX5_digestOfEdges_25 (by decide) ?_
  refine g_aload_n B dX5_digestOfEdges_26 0 rfl ?_
  refine g_iload B dX5_digestOfEdges_27 3 rfl ?_
  refine g_iload B dX5_digestOfEdges_29 4 rfl ?_
  refine g_callP (g_runV (q0 := 0) (ci := 5) B hK rfl rfl (PM.met (k_ofEdge_v1 l (D := D) (cI := cI) (cL := cL) (cZ := cZ) hb hp ht hg ha hq a0 a1 a2 a3 9 (by omega))) (gPp.pre (av := [.ref hb, .int (9 : Int32), .int (1 : Int32)]) (wc := [(hb, .inr (5, [.ref hp, .ref ht, .ref hg, .ref ha, .ref hq])), (ha, .inr (0, [.ref a0, .ref a1, .ref a2, .ref a3, .int (0 : Int32), .long (0 : Int64)]))]) hK hN [0, 1] rfl (by decide)) gX5_digestOfEdges_X5_ofEdge rfl rfl kd_X5_ofEdge ⟨by decide, by decide⟩ (st := [.long (5325193066479443635 : Int64)]) rfl (Nat.le_of_ble_eq_true rfl) dX5_digestOfEdges_31 ⟨by decide, by decide⟩) (fun u hu => ?_)
  refine g_i2l (v := (0 : Int64)) B dX5_digestOfEdges_34 (by decide) ?_
  refine g_ladd (v := (5325193066479443635 : Int64)) B dX5_digestOfEdges_35 (by decide) ?_
  refine g_lstore_n (lv' := [(0, .ref hb), (1, .long (4895594554911372 : Int64)), (3, .long (5325193066479443635 : Int64)), (5, .int (9 : Int32)), (6, .int (1 : Int32))]) B dX5_digestOfEdges_36 rfl (by decide) [1, 2, 0, 3, 4] rfl ?_
  refine g_iinc (lv' := [(0, .ref hb), (1, .long (4895594554911372 : Int64)), (3, .long (5325193066479443635 : Int64)), (5, .int (9 : Int32)), (6, .int (2 : Int32))]) B dX5_digestOfEdges_37 4 rfl (by decide) (by decide) [1, 2, 3, 4, 0] rfl ?_
  refine g_goto (tgt := 15) B dX5_digestOfEdges_40 (by decide) ?_
  refine g_iload B dX5_digestOfEdges_15 4 rfl ?_
  refine g_iconst (v := (2 : Int32)) B dX5_digestOfEdges_17 (by decide) ?_
  refine g_icmp_gt (tgt := 43) B dX5_digestOfEdges_18 (by decide) (fun c78 => absurd c78 (by decide)) (fun _ => ?_)
  refine g_lload_n B dX5_digestOfEdges_21 2 rfl ?_
  refine g_ldc2 (v := (31 : Int64)) B dX5_digestOfEdges_22 (List.mem_of_getElem? (i := 1) rfl) ?_
  refine g_lmul (v := (-939711602523211859 : Int64)) B dX5_digestOfEdges_25 (by decide) ?_
  refine g_aload_n B dX5_digestOfEdges_26 0 rfl ?_
  refine g_iload B dX5_digestOfEdges_27 3 rfl ?_
  refine g_iload B dX5_digestOfEdges_29 4 rfl ?_
  refine g_callP (g_runV (q0 := 0) (ci := 5) B hK rfl rfl (PM.met (k_ofEdge_v2 l (D := D) (cI := cI) (cL := cL) (cZ := cZ) hb hp ht hg ha hq a0 a1 a2 a3 9 (by omega))) (gPp.pre (av := [.ref hb, .int (9 : Int32), .int (2 : Int32)]) (wc := [(hb, .inr (5, [.ref hp, .ref ht, .ref hg, .ref ha, .ref hq])), (ha, .inr (0, [.ref a0, .ref a1, .ref a2, .ref a3, .int (0 : Int32), .long (0 : Int64)]))]) hK hN [0, 1] rfl (by decide)) gX5_digestOfEdges_X5_ofEdge rfl rfl kd_X5_ofEdge ⟨by decide, by decide⟩ (st := [.long (-939711602523211859 : Int64)]) rfl (Nat.le_of_ble_eq_true rfl) dX5_digestOfEdges_31 ⟨by decide, by decide⟩) (fun u hu => ?_)
  refine g_i2l (v := (-1 : Int64)) B dX5_digestOfEdges_34 (by decide) ?_
  refine g_ladd (v := (-939711602523211860 : Int64)) B dX5_digestOfEdges_35 (by decide) ?_
  refine g_lstore_n (lv' := [(0, .ref hb), (1, .long (4895594554911372 : Int64)), (3, .long (-939711602523211860 : Int64)), (5, .int (9 : Int32)), (6, .int (2 : Int32))]) B dX5_digestOfEdges_36 rfl (by decide) [1, 2, 0, 3, 4] rfl ?_
  refine g_iinc (lv' := [(0, .ref hb), (1, .long (4895594554911372 : Int64)), (3, .long (-939711602523211860 : Int64)), (5, .int (9 : Int32)), (6, .int (3 : Int32))]) B dX5_digestOfEdges_37 4 rfl (by decide) (by decide) [1, 2, 3, 4, 0] rfl ?_
  refine g_goto (tgt := 15) B dX5_digestOfEdges_40 (by decide) ?_
  refine g_iload B dX5_digestOfEdges_15 4 rfl ?_
  refine g_iconst (v := (2 : Int32)) B dX5_digestOfEdges_17 (by decide) ?_
  refine g_icmp_gt (tgt := 43) B dX5_digestOfEdges_18 (by decide) (fun _ => ?_) (fun c80 => absurd (by decide) c80)
  refine g_iinc (lv' := [(0, .ref hb), (1, .long (4895594554911372 : Int64)), (3, .long (-939711602523211860 : Int64)), (5, .int (10 : Int32)), (6, .int (3 : Int32))]) B dX5_digestOfEdges_43 3 rfl (by decide) (by decide) [1, 2, 3, 0, 4] rfl ?_
  refine g_goto (tgt := 5) B dX5_digestOfEdges_46 (by decide) ?_
  refine g_iload B dX5_digestOfEdges_5 3 rfl ?_
  refine g_bipush (v := (24 : Int32)) B dX5_digestOfEdges_7 (by decide) ?_
  refine g_icmp_ge (tgt := 49) B dX5_digestOfEdges_9 (by decide) (fun c81 => absurd c81 (by decide)) (fun _ => ?_)
  refine g_iconst (v := (0 : Int32)) B dX5_digestOfEdges_12 (by decide) ?_
  refine g_istore (lv' := [(0, .ref hb), (1, .long (4895594554911372 : Int64)), (3, .long (-939711602523211860 : Int64)), (5, .int (10 : Int32)), (6, .int (0 : Int32))]) B dX5_digestOfEdges_13 (by decide) [1, 2, 3, 4, 0] rfl ?_
  refine g_iload B dX5_digestOfEdges_15 4 rfl ?_
  refine g_iconst (v := (2 : Int32)) B dX5_digestOfEdges_17 (by decide) ?_
  refine g_icmp_gt (tgt := 43) B dX5_digestOfEdges_18 (by decide) (fun c82 => absurd c82 (by decide)) (fun _ => ?_)
  refine g_lload_n B dX5_digestOfEdges_21 2 rfl ?_
  refine g_ldc2 (v := (31 : Int64)) B dX5_digestOfEdges_22 (List.mem_of_getElem? (i := 1) rfl) ?_
  refine g_lmul (v := (7762428469199535572 : Int64)) B dX5_digestOfEdges_25 (by decide) ?_
  refine g_aload_n B dX5_digestOfEdges_26 0 rfl ?_
  refine g_iload B dX5_digestOfEdges_27 3 rfl ?_
  refine g_iload B dX5_digestOfEdges_29 4 rfl ?_
  refine g_callP (g_runV (q0 := 0) (ci := 5) B hK rfl rfl (PM.met (k_ofEdge_v0 l (D := D) (cI := cI) (cL := cL) (cZ := cZ) hb hp ht hg ha hq a0 a1 a2 a3 10 (by omega))) (gPp.pre (av := [.ref hb, .int (10 : Int32), .int (0 : Int32)]) (wc := [(hb, .inr (5, [.ref hp, .ref ht, .ref hg, .ref ha, .ref hq])), (ha, .inr (0, [.ref a0, .ref a1, .ref a2, .ref a3, .int (0 : Int32), .long (0 : Int64)]))]) hK hN [0, 1] rfl (by decide)) gX5_digestOfEdges_X5_ofEdge rfl rfl kd_X5_ofEdge ⟨by decide, by decide⟩ (st := [.long (7762428469199535572 : Int64)]) rfl (Nat.le_of_ble_eq_true rfl) dX5_digestOfEdges_31 ⟨by decide, by decide⟩) (fun u hu => ?_)
  refine g_i2l (v := (0 : Int64)) B dX5_digestOfEdges_34 (by decide) ?_
  refine g_ladd (v := (7762428469199535572 : Int64)) B dX5_digestOfEdges_35 (by decide) ?_
  refine g_lstore_n (lv' := [(0, .ref hb), (1, .long (4895594554911372 : Int64)), (3, .long (7762428469199535572 : Int64)), (5, .int (10 : Int32)), (6, .int (0 : Int32))]) B dX5_digestOfEdges_36 rfl (by decide) [1, 2, 0, 3, 4] rfl ?_
  refine g_iinc (lv' := [(0, .ref hb), (1, .long (4895594554911372 : Int64)), (3, .long (7762428469199535572 : Int64)), (5, .int (10 : Int32)), (6, .int (1 : Int32))]) B dX5_digestOfEdges_37 4 rfl (by decide) (by decide) [1, 2, 3, 4, 0] rfl ?_
  refine g_goto (tgt := 15) B dX5_digestOfEdges_40 (by decide) ?_
  refine g_iload B dX5_digestOfEdges_15 4 rfl ?_
  refine g_iconst (v := (2 : Int32)) B dX5_digestOfEdges_17 (by decide) ?_
  refine g_icmp_gt (tgt := 43) B dX5_digestOfEdges_18 (by decide) (fun c84 => absurd c84 (by decide)) (fun _ => ?_)
  refine g_lload_n B dX5_digestOfEdges_21 2 rfl ?_
  refine g_ldc2 (v := (31 : Int64)) B dX5_digestOfEdges_22 (List.mem_of_getElem? (i := 1) rfl) ?_
  refine g_lmul (v := (827609586961431724 : Int64)) B dX5_digestOfEdges_25 (by decide) ?_
  refine g_aload_n B dX5_digestOfEdges_26 0 rfl ?_
  refine g_iload B dX5_digestOfEdges_27 3 rfl ?_
  refine g_iload B dX5_digestOfEdges_29 4 rfl ?_
  refine g_callP (g_runV (q0 := 0) (ci := 5) B hK rfl rfl (PM.met (k_ofEdge_v1 l (D := D) (cI := cI) (cL := cL) (cZ := cZ) hb hp ht hg ha hq a0 a1 a2 a3 10 (by omega))) (gPp.pre (av := [.ref hb, .int (10 : Int32), .int (1 : Int32)]) (wc := [(hb, .inr (5, [.ref hp, .ref ht, .ref hg, .ref ha, .ref hq])), (ha, .inr (0, [.ref a0, .ref a1, .ref a2, .ref a3, .int (0 : Int32), .long (0 : Int64)]))]) hK hN [0, 1] rfl (by decide)) gX5_digestOfEdges_X5_ofEdge rfl rfl kd_X5_ofEdge ⟨by decide, by decide⟩ (st := [.long (827609586961431724 : Int64)]) rfl (Nat.le_of_ble_eq_true rfl) dX5_digestOfEdges_31 ⟨by decide, by decide⟩) (fun u hu => ?_)
  refine g_i2l (v := (0 : Int64)) B dX5_digestOfEdges_34 (by decide) ?_
  refine g_ladd (v := (827609586961431724 : Int64)) B dX5_digestOfEdges_35 (by decide) ?_
  refine g_lstore_n (lv' := [(0, .ref hb), (1, .long (4895594554911372 : Int64)), (3, .long (827609586961431724 : Int64)), (5, .int (10 : Int32)), (6, .int (1 : Int32))]) B dX5_digestOfEdges_36 rfl (by decide) [1, 2, 0, 3, 4] rfl ?_
  refine g_iinc (lv' := [(0, .ref hb), (1, .long (4895594554911372 : Int64)), (3, .long (827609586961431724 : Int64)), (5, .int (10 : Int32)), (6, .int (2 : Int32))]) B dX5_digestOfEdges_37 4 rfl (by decide) (by decide) [1, 2, 3, 4, 0] rfl ?_
  refine g_goto (tgt := 15) B dX5_digestOfEdges_40 (by decide) ?_
  refine g_iload B dX5_digestOfEdges_15 4 rfl ?_
  refine g_iconst (v := (2 : Int32)) B dX5_digestOfEdges_17 (by decide) ?_
  refine g_icmp_gt (tgt := 43) B dX5_digestOfEdges_18 (by decide) (fun c86 => absurd c86 (by decide)) (fun _ => ?_)
  refine g_lload_n B dX5_digestOfEdges_21 2 rfl ?_
  refine g_ldc2 (v := (31 : Int64)) B dX5_digestOfEdges_22 (List.mem_of_getElem? (i := 1) rfl) ?_
  refine g_lmul (v := (7209153122094831828 : Int64)) B dX5_digestOfEdges_25 (by decide) ?_
  refine g_aload_n B dX5_digestOfEdges_26 0 rfl ?_
  refine g_iload B dX5_digestOfEdges_27 3 rfl ?_
  refine g_iload B dX5_digestOfEdges_29 4 rfl ?_
  refine g_callP (g_runV (q0 := 0) (ci := 5) B hK rfl rfl (PM.met (k_ofEdge_v2 l (D := D) (cI := cI) (cL := cL) (cZ := cZ) hb hp ht hg ha hq a0 a1 a2 a3 10 (by omega))) (gPp.pre (av := [.ref hb, .int (10 : Int32), .int (2 : Int32)]) (wc := [(hb, .inr (5, [.ref hp, .ref ht, .ref hg, .ref ha, .ref hq])), (ha, .inr (0, [.ref a0, .ref a1, .ref a2, .ref a3, .int (0 : Int32), .long (0 : Int64)]))]) hK hN [0, 1] rfl (by decide)) gX5_digestOfEdges_X5_ofEdge rfl rfl kd_X5_ofEdge ⟨by decide, by decide⟩ (st := [.long (7209153122094831828 : Int64)]) rfl (Nat.le_of_ble_eq_true rfl) dX5_digestOfEdges_31 ⟨by decide, by decide⟩) (fun u hu => ?_)
  refine g_i2l (v := (-1 : Int64)) B dX5_digestOfEdges_34 (by decide) ?_
  refine g_ladd (v := (7209153122094831827 : Int64)) B dX5_digestOfEdges_35 (by decide) ?_
  refine g_lstore_n (lv' := [(0, .ref hb), (1, .long (4895594554911372 : Int64)), (3, .long (7209153122094831827 : Int64)), (5, .int (10 : Int32)), (6, .int (2 : Int32))]) B dX5_digestOfEdges_36 rfl (by decide) [1, 2, 0, 3, 4] rfl ?_
  refine g_iinc (lv' := [(0, .ref hb), (1, .long (4895594554911372 : Int64)), (3, .long (7209153122094831827 : Int64)), (5, .int (10 : Int32)), (6, .int (3 : Int32))]) B dX5_digestOfEdges_37 4 rfl (by decide) (by decide) [1, 2, 3, 4, 0] rfl ?_
  refine g_goto (tgt := 15) B dX5_digestOfEdges_40 (by decide) ?_
  refine g_iload B dX5_digestOfEdges_15 4 rfl ?_
  refine g_iconst (v := (2 : Int32)) B dX5_digestOfEdges_17 (by decide) ?_
  refine g_icmp_gt (tgt := 43) B dX5_digestOfEdges_18 (by decide) (fun _ => ?_) (fun c88 => absurd (by decide) c88)
  refine g_iinc (lv' := [(0, .ref hb), (1, .long (4895594554911372 : Int64)), (3, .long (7209153122094831827 : Int64)), (5, .int (11 : Int32)), (6, .int (3 : Int32))]) B dX5_digestOfEdges_43 3 rfl (by decide) (by decide) [1, 2, 3, 0, 4] rfl ?_
  refine g_goto (tgt := 5) B dX5_digestOfEdges_46 (by decide) ?_
  refine g_iload B dX5_digestOfEdges_5 3 rfl ?_
  refine g_bipush (v := (24 : Int32)) B dX5_digestOfEdges_7 (by decide) ?_
  refine g_icmp_ge (tgt := 49) B dX5_digestOfEdges_9 (by decide) (fun c89 => absurd c89 (by decide)) (fun _ => ?_)
  refine g_iconst (v := (0 : Int32)) B dX5_digestOfEdges_12 (by decide) ?_
  refine g_istore (lv' := [(0, .ref hb), (1, .long (4895594554911372 : Int64)), (3, .long (7209153122094831827 : Int64)), (5, .int (11 : Int32)), (6, .int (0 : Int32))]) B dX5_digestOfEdges_13 (by decide) [1, 2, 3, 4, 0] rfl ?_
  refine g_iload B dX5_digestOfEdges_15 4 rfl ?_
  refine g_iconst (v := (2 : Int32)) B dX5_digestOfEdges_17 (by decide) ?_
  refine g_icmp_gt (tgt := 43) B dX5_digestOfEdges_18 (by decide) (fun c90 => absurd c90 (by decide)) (fun _ => ?_)
  refine g_lload_n B dX5_digestOfEdges_21 2 rfl ?_
  refine g_ldc2 (v := (31 : Int64)) B dX5_digestOfEdges_22 (List.mem_of_getElem? (i := 1) rfl) ?_
  refine g_lmul (v := (2122817900425167245 : Int64)) B dX5_digestOfEdges_25 (by decide) ?_
  refine g_aload_n B dX5_digestOfEdges_26 0 rfl ?_
  refine g_iload B dX5_digestOfEdges_27 3 rfl ?_
  refine g_iload B dX5_digestOfEdges_29 4 rfl ?_
  refine g_callP (g_runV (q0 := 0) (ci := 5) B hK rfl rfl (PM.met (k_ofEdge_v0 l (D := D) (cI := cI) (cL := cL) (cZ := cZ) hb hp ht hg ha hq a0 a1 a2 a3 11 (by omega))) (gPp.pre (av := [.ref hb, .int (11 : Int32), .int (0 : Int32)]) (wc := [(hb, .inr (5, [.ref hp, .ref ht, .ref hg, .ref ha, .ref hq])), (ha, .inr (0, [.ref a0, .ref a1, .ref a2, .ref a3, .int (0 : Int32), .long (0 : Int64)]))]) hK hN [0, 1] rfl (by decide)) gX5_digestOfEdges_X5_ofEdge rfl rfl kd_X5_ofEdge ⟨by decide, by decide⟩ (st := [.long (2122817900425167245 : Int64)]) rfl (Nat.le_of_ble_eq_true rfl) dX5_digestOfEdges_31 ⟨by decide, by decide⟩) (fun u hu => ?_)
  refine g_i2l (v := (0 : Int64)) B dX5_digestOfEdges_34 (by decide) ?_
  refine g_ladd (v := (2122817900425167245 : Int64)) B dX5_digestOfEdges_35 (by decide) ?_
  refine g_lstore_n (lv' := [(0, .ref hb), (1, .long (4895594554911372 : Int64)), (3, .long (2122817900425167245 : Int64)), (5, .int (11 : Int32)), (6, .int (0 : Int32))]) B dX5_digestOfEdges_36 rfl (by decide) [1, 2, 0, 3, 4] rfl ?_
  refine g_iinc (lv' := [(0, .ref hb), (1, .long (4895594554911372 : Int64)), (3, .long (2122817900425167245 : Int64)), (5, .int (11 : Int32)), (6, .int (1 : Int32))]) B dX5_digestOfEdges_37 4 rfl (by decide) (by decide) [1, 2, 3, 4, 0] rfl ?_
  refine g_goto (tgt := 15) B dX5_digestOfEdges_40 (by decide) ?_
  refine g_iload B dX5_digestOfEdges_15 4 rfl ?_
  refine g_iconst (v := (2 : Int32)) B dX5_digestOfEdges_17 (by decide) ?_
  refine g_icmp_gt (tgt := 43) B dX5_digestOfEdges_18 (by decide) (fun c92 => absurd c92 (by decide)) (fun _ => ?_)
  refine g_lload_n B dX5_digestOfEdges_21 2 rfl ?_
  refine g_ldc2 (v := (31 : Int64)) B dX5_digestOfEdges_22 (List.mem_of_getElem? (i := 1) rfl) ?_
  refine g_lmul (v := (-7979621381658021869 : Int64)) B dX5_digestOfEdges_25 (by decide) ?_
  refine g_aload_n B dX5_digestOfEdges_26 0 rfl ?_
  refine g_iload B dX5_digestOfEdges_27 3 rfl ?_
  refine g_iload B dX5_digestOfEdges_29 4 rfl ?_
  refine g_callP (g_runV (q0 := 0) (ci := 5) B hK rfl rfl (PM.met (k_ofEdge_v1 l (D := D) (cI := cI) (cL := cL) (cZ := cZ) hb hp ht hg ha hq a0 a1 a2 a3 11 (by omega))) (gPp.pre (av := [.ref hb, .int (11 : Int32), .int (1 : Int32)]) (wc := [(hb, .inr (5, [.ref hp, .ref ht, .ref hg, .ref ha, .ref hq])), (ha, .inr (0, [.ref a0, .ref a1, .ref a2, .ref a3, .int (0 : Int32), .long (0 : Int64)]))]) hK hN [0, 1] rfl (by decide)) gX5_digestOfEdges_X5_ofEdge rfl rfl kd_X5_ofEdge ⟨by decide, by decide⟩ (st := [.long (-7979621381658021869 : Int64)]) rfl (Nat.le_of_ble_eq_true rfl) dX5_digestOfEdges_31 ⟨by decide, by decide⟩) (fun u hu => ?_)
  refine g_i2l (v := (0 : Int64)) B dX5_digestOfEdges_34 (by decide) ?_
  refine g_ladd (v := (-7979621381658021869 : Int64)) B dX5_digestOfEdges_35 (by decide) ?_
  refine g_lstore_n (lv' := [(0, .ref hb), (1, .long (4895594554911372 : Int64)), (3, .long (-7979621381658021869 : Int64)), (5, .int (11 : Int32)), (6, .int (1 : Int32))]) B dX5_digestOfEdges_36 rfl (by decide) [1, 2, 0, 3, 4] rfl ?_
  refine g_iinc (lv' := [(0, .ref hb), (1, .long (4895594554911372 : Int64)), (3, .long (-7979621381658021869 : Int64)), (5, .int (11 : Int32)), (6, .int (2 : Int32))]) B dX5_digestOfEdges_37 4 rfl (by decide) (by decide) [1, 2, 3, 4, 0] rfl ?_
  refine g_goto (tgt := 15) B dX5_digestOfEdges_40 (by decide) ?_
  refine g_iload B dX5_digestOfEdges_15 4 rfl ?_
  refine g_iconst (v := (2 : Int32)) B dX5_digestOfEdges_17 (by decide) ?_
  refine g_icmp_gt (tgt := 43) B dX5_digestOfEdges_18 (by decide) (fun c94 => absurd c94 (by decide)) (fun _ => ?_)
  refine g_lload_n B dX5_digestOfEdges_21 2 rfl ?_
  refine g_ldc2 (v := (31 : Int64)) B dX5_digestOfEdges_22 (List.mem_of_getElem? (i := 1) rfl) ?_
  refine g_lmul (v := (-7560589873174506931 : Int64)) B dX5_digestOfEdges_25 (by decide) ?_
  refine g_aload_n B dX5_digestOfEdges_26 0 rfl ?_
  refine g_iload B dX5_digestOfEdges_27 3 rfl ?_
  refine g_iload B dX5_digestOfEdges_29 4 rfl ?_
  refine g_callP (g_runV (q0 := 0) (ci := 5) B hK rfl rfl (PM.met (k_ofEdge_v2 l (D := D) (cI := cI) (cL := cL) (cZ := cZ) hb hp ht hg ha hq a0 a1 a2 a3 11 (by omega))) (gPp.pre (av := [.ref hb, .int (11 : Int32), .int (2 : Int32)]) (wc := [(hb, .inr (5, [.ref hp, .ref ht, .ref hg, .ref ha, .ref hq])), (ha, .inr (0, [.ref a0, .ref a1, .ref a2, .ref a3, .int (0 : Int32), .long (0 : Int64)]))]) hK hN [0, 1] rfl (by decide)) gX5_digestOfEdges_X5_ofEdge rfl rfl kd_X5_ofEdge ⟨by decide, by decide⟩ (st := [.long (-7560589873174506931 : Int64)]) rfl (Nat.le_of_ble_eq_true rfl) dX5_digestOfEdges_31 ⟨by decide, by decide⟩) (fun u hu => ?_)
  refine g_i2l (v := (-1 : Int64)) B dX5_digestOfEdges_34 (by decide) ?_
  refine g_ladd (v := (-7560589873174506932 : Int64)) B dX5_digestOfEdges_35 (by decide) ?_
  refine g_lstore_n (lv' := [(0, .ref hb), (1, .long (4895594554911372 : Int64)), (3, .long (-7560589873174506932 : Int64)), (5, .int (11 : Int32)), (6, .int (2 : Int32))]) B dX5_digestOfEdges_36 rfl (by decide) [1, 2, 0, 3, 4] rfl ?_
  refine g_iinc (lv' := [(0, .ref hb), (1, .long (4895594554911372 : Int64)), (3, .long (-7560589873174506932 : Int64)), (5, .int (11 : Int32)), (6, .int (3 : Int32))]) B dX5_digestOfEdges_37 4 rfl (by decide) (by decide) [1, 2, 3, 4, 0] rfl ?_
  refine g_goto (tgt := 15) B dX5_digestOfEdges_40 (by decide) ?_
  refine g_iload B dX5_digestOfEdges_15 4 rfl ?_
  refine g_iconst (v := (2 : Int32)) B dX5_digestOfEdges_17 (by decide) ?_
  refine g_icmp_gt (tgt := 43) B dX5_digestOfEdges_18 (by decide) (fun _ => ?_) (fun c96 => absurd (by decide) c96)
  refine g_iinc (lv' := [(0, .ref hb), (1, .long (4895594554911372 : Int64)), (3, .long (-7560589873174506932 : Int64)), (5, .int (12 : Int32)), (6, .int (3 : Int32))]) B dX5_digestOfEdges_43 3 rfl (by decide) (by decide) [1, 2, 3, 0, 4] rfl ?_
  refine g_goto (tgt := 5) B dX5_digestOfEdges_46 (by decide) ?_
  refine g_iload B dX5_digestOfEdges_5 3 rfl ?_
  refine g_bipush (v := (24 : Int32)) B dX5_digestOfEdges_7 (by decide) ?_
  refine g_icmp_ge (tgt := 49) B dX5_digestOfEdges_9 (by decide) (fun c97 => absurd c97 (by decide)) (fun _ => ?_)
  refine g_iconst (v := (0 : Int32)) B dX5_digestOfEdges_12 (by decide) ?_
  refine g_istore (lv' := [(0, .ref hb), (1, .long (4895594554911372 : Int64)), (3, .long (-7560589873174506932 : Int64)), (5, .int (12 : Int32)), (6, .int (0 : Int32))]) B dX5_digestOfEdges_13 (by decide) [1, 2, 3, 4, 0] rfl ?_
  refine g_iload B dX5_digestOfEdges_15 4 rfl ?_
  refine g_iconst (v := (2 : Int32)) B dX5_digestOfEdges_17 (by decide) ?_
  refine g_icmp_gt (tgt := 43) B dX5_digestOfEdges_18 (by decide) (fun c98 => absurd c98 (by decide)) (fun _ => ?_)
  refine g_lload_n B dX5_digestOfEdges_21 2 rfl ?_
  refine g_ldc2 (v := (31 : Int64)) B dX5_digestOfEdges_22 (List.mem_of_getElem? (i := 1) rfl) ?_
  refine g_lmul (v := (5429386889814456116 : Int64)) B dX5_digestOfEdges_25 (by decide) ?_
  refine g_aload_n B dX5_digestOfEdges_26 0 rfl ?_
  refine g_iload B dX5_digestOfEdges_27 3 rfl ?_
  refine g_iload B dX5_digestOfEdges_29 4 rfl ?_
  refine g_callP (g_runV (q0 := 0) (ci := 5) B hK rfl rfl (PM.met (k_ofEdge_v0 l (D := D) (cI := cI) (cL := cL) (cZ := cZ) hb hp ht hg ha hq a0 a1 a2 a3 12 (by omega))) (gPp.pre (av := [.ref hb, .int (12 : Int32), .int (0 : Int32)]) (wc := [(hb, .inr (5, [.ref hp, .ref ht, .ref hg, .ref ha, .ref hq])), (ha, .inr (0, [.ref a0, .ref a1, .ref a2, .ref a3, .int (0 : Int32), .long (0 : Int64)]))]) hK hN [0, 1] rfl (by decide)) gX5_digestOfEdges_X5_ofEdge rfl rfl kd_X5_ofEdge ⟨by decide, by decide⟩ (st := [.long (5429386889814456116 : Int64)]) rfl (Nat.le_of_ble_eq_true rfl) dX5_digestOfEdges_31 ⟨by decide, by decide⟩) (fun u hu => ?_)
  refine g_i2l (v := (0 : Int64)) B dX5_digestOfEdges_34 (by decide) ?_
  refine g_ladd (v := (5429386889814456116 : Int64)) B dX5_digestOfEdges_35 (by decide) ?_
  refine g_lstore_n (lv' := [(0, .ref hb), (1, .long (4895594554911372 : Int64)), (3, .long (5429386889814456116 : Int64)), (5, .int (12 : Int32)), (6, .int (0 : Int32))]) B dX5_digestOfEdges_36 rfl (by decide) [1, 2, 0, 3, 4] rfl ?_
  refine g_iinc (lv' := [(0, .ref hb), (1, .long (4895594554911372 : Int64)), (3, .long (5429386889814456116 : Int64)), (5, .int (12 : Int32)), (6, .int (1 : Int32))]) B dX5_digestOfEdges_37 4 rfl (by decide) (by decide) [1, 2, 3, 4, 0] rfl ?_
  refine g_goto (tgt := 15) B dX5_digestOfEdges_40 (by decide) ?_
  refine g_iload B dX5_digestOfEdges_15 4 rfl ?_
  refine g_iconst (v := (2 : Int32)) B dX5_digestOfEdges_17 (by decide) ?_
  refine g_icmp_gt (tgt := 43) B dX5_digestOfEdges_18 (by decide) (fun c100 => absurd c100 (by decide)) (fun _ => ?_)
  refine g_lload_n B dX5_digestOfEdges_21 2 rfl ?_
  refine g_ldc2 (v := (31 : Int64)) B dX5_digestOfEdges_22 (List.mem_of_getElem? (i := 1) rfl) ?_
  refine g_lmul (v := (2290296920862175052 : Int64)) B dX5_digestOfEdges_25 (by decide) ?_
  refine g_aload_n B dX5_digestOfEdges_26 0 rfl ?_
  refine g_iload B dX5_digestOfEdges_27 3 rfl ?_
  refine g_iload B dX5_digestOfEdges_29 4 rfl ?_
  refine g_callP (g_runV (q0 := 0) (ci := 5) B hK rfl rfl (PM.met (k_ofEdge_v1 l (D := D) (cI := cI) (cL := cL) (cZ := cZ) hb hp ht hg ha hq a0 a1 a2 a3 12 (by omega))) (gPp.pre (av := [.ref hb, .int (12 : Int32), .int (1 : Int32)]) (wc := [(hb, .inr (5, [.ref hp, .ref ht, .ref hg, .ref ha, .ref hq])), (ha, .inr (0, [.ref a0, .ref a1, .ref a2, .ref a3, .int (0 : Int32), .long (0 : Int64)]))]) hK hN [0, 1] rfl (by decide)) gX5_digestOfEdges_X5_ofEdge rfl rfl kd_X5_ofEdge ⟨by decide, by decide⟩ (st := [.long (2290296920862175052 : Int64)]) rfl (Nat.le_of_ble_eq_true rfl) dX5_digestOfEdges_31 ⟨by decide, by decide⟩) (fun u hu => ?_)
  refine g_i2l (v := (0 : Int64)) B dX5_digestOfEdges_34 (by decide) ?_
  refine g_ladd (v := (2290296920862175052 : Int64)) B dX5_digestOfEdges_35 (by decide) ?_
  refine g_lstore_n (lv' := [(0, .ref hb), (1, .long (4895594554911372 : Int64)), (3, .long (2290296920862175052 : Int64)), (5, .int (12 : Int32)), (6, .int (1 : Int32))]) B dX5_digestOfEdges_36 rfl (by decide) [1, 2, 0, 3, 4] rfl ?_
  refine g_iinc (lv' := [(0, .ref hb), (1, .long (4895594554911372 : Int64)), (3, .long (2290296920862175052 : Int64)), (5, .int (12 : Int32)), (6, .int (2 : Int32))]) B dX5_digestOfEdges_37 4 rfl (by decide) (by decide) [1, 2, 3, 4, 0] rfl ?_
  refine g_goto (tgt := 15) B dX5_digestOfEdges_40 (by decide) ?_
  refine g_iload B dX5_digestOfEdges_15 4 rfl ?_
  refine g_iconst (v := (2 : Int32)) B dX5_digestOfEdges_17 (by decide) ?_
  refine g_icmp_gt (tgt := 43) B dX5_digestOfEdges_18 (by decide) (fun c102 => absurd c102 (by decide)) (fun _ => ?_)
  refine g_lload_n B dX5_digestOfEdges_21 2 rfl ?_
  refine g_ldc2 (v := (31 : Int64)) B dX5_digestOfEdges_22 (List.mem_of_getElem? (i := 1) rfl) ?_
  refine g_lmul (v := (-2787771748110779852 : Int64)) B dX5_digestOfEdges_25 (by decide) ?_
  refine g_aload_n B dX5_digestOfEdges_26 0 rfl ?_
  refine g_iload B dX5_digestOfEdges_27 3 rfl ?_
  refine g_iload B dX5_digestOfEdges_29 4 rfl ?_
  refine g_callP (g_runV (q0 := 0) (ci := 5) B hK rfl rfl (PM.met (k_ofEdge_v2 l (D := D) (cI := cI) (cL := cL) (cZ := cZ) hb hp ht hg ha hq a0 a1 a2 a3 12 (by omega))) (gPp.pre (av := [.ref hb, .int (12 : Int32), .int (2 : Int32)]) (wc := [(hb, .inr (5, [.ref hp, .ref ht, .ref hg, .ref ha, .ref hq])), (ha, .inr (0, [.ref a0, .ref a1, .ref a2, .ref a3, .int (0 : Int32), .long (0 : Int64)]))]) hK hN [0, 1] rfl (by decide)) gX5_digestOfEdges_X5_ofEdge rfl rfl kd_X5_ofEdge ⟨by decide, by decide⟩ (st := [.long (-2787771748110779852 : Int64)]) rfl (Nat.le_of_ble_eq_true rfl) dX5_digestOfEdges_31 ⟨by decide, by decide⟩) (fun u hu => ?_)
  refine g_i2l (v := (-1 : Int64)) B dX5_digestOfEdges_34 (by decide) ?_
  refine g_ladd (v := (-2787771748110779853 : Int64)) B dX5_digestOfEdges_35 (by decide) ?_
  refine g_lstore_n (lv' := [(0, .ref hb), (1, .long (4895594554911372 : Int64)), (3, .long (-2787771748110779853 : Int64)), (5, .int (12 : Int32)), (6, .int (2 : Int32))]) B dX5_digestOfEdges_36 rfl (by decide) [1, 2, 0, 3, 4] rfl ?_
  refine g_iinc (lv' := [(0, .ref hb), (1, .long (4895594554911372 : Int64)), (3, .long (-2787771748110779853 : Int64)), (5, .int (12 : Int32)), (6, .int (3 : Int32))]) B dX5_digestOfEdges_37 4 rfl (by decide) (by decide) [1, 2, 3, 4, 0] rfl ?_
  refine g_goto (tgt := 15) B dX5_digestOfEdges_40 (by decide) ?_
  refine g_iload B dX5_digestOfEdges_15 4 rfl ?_
  refine g_iconst (v := (2 : Int32)) B dX5_digestOfEdges_17 (by decide) ?_
  refine g_icmp_gt (tgt := 43) B dX5_digestOfEdges_18 (by decide) (fun _ => ?_) (fun c104 => absurd (by decide) c104)
  refine g_iinc (lv' := [(0, .ref hb), (1, .long (4895594554911372 : Int64)), (3, .long (-2787771748110779853 : Int64)), (5, .int (13 : Int32)), (6, .int (3 : Int32))]) B dX5_digestOfEdges_43 3 rfl (by decide) (by decide) [1, 2, 3, 0, 4] rfl ?_
  refine g_goto (tgt := 5) B dX5_digestOfEdges_46 (by decide) ?_
  refine g_iload B dX5_digestOfEdges_5 3 rfl ?_
  refine g_bipush (v := (24 : Int32)) B dX5_digestOfEdges_7 (by decide) ?_
  refine g_icmp_ge (tgt := 49) B dX5_digestOfEdges_9 (by decide) (fun c105 => absurd c105 (by decide)) (fun _ => ?_)
  refine g_iconst (v := (0 : Int32)) B dX5_digestOfEdges_12 (by decide) ?_
  refine g_istore (lv' := [(0, .ref hb), (1, .long (4895594554911372 : Int64)), (3, .long (-2787771748110779853 : Int64)), (5, .int (13 : Int32)), (6, .int (0 : Int32))]) B dX5_digestOfEdges_13 (by decide) [1, 2, 3, 4, 0] rfl ?_
  refine g_iload B dX5_digestOfEdges_15 4 rfl ?_
  refine g_iconst (v := (2 : Int32)) B dX5_digestOfEdges_17 (by decide) ?_
  refine g_icmp_gt (tgt := 43) B dX5_digestOfEdges_18 (by decide) (fun c106 => absurd c106 (by decide)) (fun _ => ?_)
  refine g_lload_n B dX5_digestOfEdges_21 2 rfl ?_
  refine g_ldc2 (v := (31 : Int64)) B dX5_digestOfEdges_22 (List.mem_of_getElem? (i := 1) rfl) ?_
  refine g_lmul (v := (5812796177113582637 : Int64)) B dX5_digestOfEdges_25 (by decide) ?_
  refine g_aload_n B dX5_digestOfEdges_26 0 rfl ?_
  refine g_iload B dX5_digestOfEdges_27 3 rfl ?_
  refine g_iload B dX5_digestOfEdges_29 4 rfl ?_
  refine g_callP (g_runV (q0 := 0) (ci := 5) B hK rfl rfl (PM.met (k_ofEdge_v0 l (D := D) (cI := cI) (cL := cL) (cZ := cZ) hb hp ht hg ha hq a0 a1 a2 a3 13 (by omega))) (gPp.pre (av := [.ref hb, .int (13 : Int32), .int (0 : Int32)]) (wc := [(hb, .inr (5, [.ref hp, .ref ht, .ref hg, .ref ha, .ref hq])), (ha, .inr (0, [.ref a0, .ref a1, .ref a2, .ref a3, .int (0 : Int32), .long (0 : Int64)]))]) hK hN [0, 1] rfl (by decide)) gX5_digestOfEdges_X5_ofEdge rfl rfl kd_X5_ofEdge ⟨by decide, by decide⟩ (st := [.long (5812796177113582637 : Int64)]) rfl (Nat.le_of_ble_eq_true rfl) dX5_digestOfEdges_31 ⟨by decide, by decide⟩) (fun u hu => ?_)
  refine g_i2l (v := (0 : Int64)) B dX5_digestOfEdges_34 (by decide) ?_
  refine g_ladd (v := (5812796177113582637 : Int64)) B dX5_digestOfEdges_35 (by decide) ?_
  refine g_lstore_n (lv' := [(0, .ref hb), (1, .long (4895594554911372 : Int64)), (3, .long (5812796177113582637 : Int64)), (5, .int (13 : Int32)), (6, .int (0 : Int32))]) B dX5_digestOfEdges_36 rfl (by decide) [1, 2, 0, 3, 4] rfl ?_
  refine g_iinc (lv' := [(0, .ref hb), (1, .long (4895594554911372 : Int64)), (3, .long (5812796177113582637 : Int64)), (5, .int (13 : Int32)), (6, .int (1 : Int32))]) B dX5_digestOfEdges_37 4 rfl (by decide) (by decide) [1, 2, 3, 4, 0] rfl ?_
  refine g_goto (tgt := 15) B dX5_digestOfEdges_40 (by decide) ?_
  refine g_iload B dX5_digestOfEdges_15 4 rfl ?_
  refine g_iconst (v := (2 : Int32)) B dX5_digestOfEdges_17 (by decide) ?_
  refine g_icmp_gt (tgt := 43) B dX5_digestOfEdges_18 (by decide) (fun c108 => absurd c108 (by decide)) (fun _ => ?_)
  refine g_lload_n B dX5_digestOfEdges_21 2 rfl ?_
  refine g_ldc2 (v := (31 : Int64)) B dX5_digestOfEdges_22 (List.mem_of_getElem? (i := 1) rfl) ?_
  refine g_lmul (v := (-4270759246574454413 : Int64)) B dX5_digestOfEdges_25 (by decide) ?_
  refine g_aload_n B dX5_digestOfEdges_26 0 rfl ?_
  refine g_iload B dX5_digestOfEdges_27 3 rfl ?_
  refine g_iload B dX5_digestOfEdges_29 4 rfl ?_
  refine g_callP (g_runV (q0 := 0) (ci := 5) B hK rfl rfl (PM.met (k_ofEdge_v1 l (D := D) (cI := cI) (cL := cL) (cZ := cZ) hb hp ht hg ha hq a0 a1 a2 a3 13 (by omega))) (gPp.pre (av := [.ref hb, .int (13 : Int32), .int (1 : Int32)]) (wc := [(hb, .inr (5, [.ref hp, .ref ht, .ref hg, .ref ha, .ref hq])), (ha, .inr (0, [.ref a0, .ref a1, .ref a2, .ref a3, .int (0 : Int32), .long (0 : Int64)]))]) hK hN [0, 1] rfl (by decide)) gX5_digestOfEdges_X5_ofEdge rfl rfl kd_X5_ofEdge ⟨by decide, by decide⟩ (st := [.long (-4270759246574454413 : Int64)]) rfl (Nat.le_of_ble_eq_true rfl) dX5_digestOfEdges_31 ⟨by decide, by decide⟩) (fun u hu => ?_)
  refine g_i2l (v := (0 : Int64)) B dX5_digestOfEdges_34 (by decide) ?_
  refine g_ladd (v := (-4270759246574454413 : Int64)) B dX5_digestOfEdges_35 (by decide) ?_
  refine g_lstore_n (lv' := [(0, .ref hb), (1, .long (4895594554911372 : Int64)), (3, .long (-4270759246574454413 : Int64)), (5, .int (13 : Int32)), (6, .int (1 : Int32))]) B dX5_digestOfEdges_36 rfl (by decide) [1, 2, 0, 3, 4] rfl ?_
  refine g_iinc (lv' := [(0, .ref hb), (1, .long (4895594554911372 : Int64)), (3, .long (-4270759246574454413 : Int64)), (5, .int (13 : Int32)), (6, .int (2 : Int32))]) B dX5_digestOfEdges_37 4 rfl (by decide) (by decide) [1, 2, 3, 4, 0] rfl ?_
  refine g_goto (tgt := 15) B dX5_digestOfEdges_40 (by decide) ?_
  refine g_iload B dX5_digestOfEdges_15 4 rfl ?_
  refine g_iconst (v := (2 : Int32)) B dX5_digestOfEdges_17 (by decide) ?_
  refine g_icmp_gt (tgt := 43) B dX5_digestOfEdges_18 (by decide) (fun c110 => absurd c110 (by decide)) (fun _ => ?_)
  refine g_lload_n B dX5_digestOfEdges_21 2 rfl ?_
  refine g_ldc2 (v := (31 : Int64)) B dX5_digestOfEdges_22 (List.mem_of_getElem? (i := 1) rfl) ?_
  refine g_lmul (v := (-3266328127841225491 : Int64)) B dX5_digestOfEdges_25 (by decide) ?_
  refine g_aload_n B dX5_digestOfEdges_26 0 rfl ?_
  refine g_iload B dX5_digestOfEdges_27 3 rfl ?_
  refine g_iload B dX5_digestOfEdges_29 4 rfl ?_
  refine g_callP (g_runV (q0 := 0) (ci := 5) B hK rfl rfl (PM.met (k_ofEdge_v2 l (D := D) (cI := cI) (cL := cL) (cZ := cZ) hb hp ht hg ha hq a0 a1 a2 a3 13 (by omega))) (gPp.pre (av := [.ref hb, .int (13 : Int32), .int (2 : Int32)]) (wc := [(hb, .inr (5, [.ref hp, .ref ht, .ref hg, .ref ha, .ref hq])), (ha, .inr (0, [.ref a0, .ref a1, .ref a2, .ref a3, .int (0 : Int32), .long (0 : Int64)]))]) hK hN [0, 1] rfl (by decide)) gX5_digestOfEdges_X5_ofEdge rfl rfl kd_X5_ofEdge ⟨by decide, by decide⟩ (st := [.long (-3266328127841225491 : Int64)]) rfl (Nat.le_of_ble_eq_true rfl) dX5_digestOfEdges_31 ⟨by decide, by decide⟩) (fun u hu => ?_)
  refine g_i2l (v := (-1 : Int64)) B dX5_digestOfEdges_34 (by decide) ?_
  refine g_ladd (v := (-3266328127841225492 : Int64)) B dX5_digestOfEdges_35 (by decide) ?_
  refine g_lstore_n (lv' := [(0, .ref hb), (1, .long (4895594554911372 : Int64)), (3, .long (-3266328127841225492 : Int64)), (5, .int (13 : Int32)), (6, .int (2 : Int32))]) B dX5_digestOfEdges_36 rfl (by decide) [1, 2, 0, 3, 4] rfl ?_
  refine g_iinc (lv' := [(0, .ref hb), (1, .long (4895594554911372 : Int64)), (3, .long (-3266328127841225492 : Int64)), (5, .int (13 : Int32)), (6, .int (3 : Int32))]) B dX5_digestOfEdges_37 4 rfl (by decide) (by decide) [1, 2, 3, 4, 0] rfl ?_
  refine g_goto (tgt := 15) B dX5_digestOfEdges_40 (by decide) ?_
  refine g_iload B dX5_digestOfEdges_15 4 rfl ?_
  refine g_iconst (v := (2 : Int32)) B dX5_digestOfEdges_17 (by decide) ?_
  refine g_icmp_gt (tgt := 43) B dX5_digestOfEdges_18 (by decide) (fun _ => ?_) (fun c112 => absurd (by decide) c112)
  refine g_iinc (lv' := [(0, .ref hb), (1, .long (4895594554911372 : Int64)), (3, .long (-3266328127841225492 : Int64)), (5, .int (14 : Int32)), (6, .int (3 : Int32))]) B dX5_digestOfEdges_43 3 rfl (by decide) (by decide) [1, 2, 3, 0, 4] rfl ?_
  refine g_goto (tgt := 5) B dX5_digestOfEdges_46 (by decide) ?_
  refine g_iload B dX5_digestOfEdges_5 3 rfl ?_
  refine g_bipush (v := (24 : Int32)) B dX5_digestOfEdges_7 (by decide) ?_
  refine g_icmp_ge (tgt := 49) B dX5_digestOfEdges_9 (by decide) (fun c113 => absurd c113 (by decide)) (fun _ => ?_)
  refine g_iconst (v := (0 : Int32)) B dX5_digestOfEdges_12 (by decide) ?_
  refine g_istore (lv' := [(0, .ref hb), (1, .long (4895594554911372 : Int64)), (3, .long (-3266328127841225492 : Int64)), (5, .int (14 : Int32)), (6, .int (0 : Int32))]) B dX5_digestOfEdges_13 (by decide) [1, 2, 3, 4, 0] rfl ?_
  refine g_iload B dX5_digestOfEdges_15 4 rfl ?_
  refine g_iconst (v := (2 : Int32)) B dX5_digestOfEdges_17 (by decide) ?_
  refine g_icmp_gt (tgt := 43) B dX5_digestOfEdges_18 (by decide) (fun c114 => absurd c114 (by decide)) (fun _ => ?_)
  refine g_lload_n B dX5_digestOfEdges_21 2 rfl ?_
  refine g_ldc2 (v := (31 : Int64)) B dX5_digestOfEdges_22 (List.mem_of_getElem? (i := 1) rfl) ?_
  refine g_lmul (v := (-9022451594530232172 : Int64)) B dX5_digestOfEdges_25 (by decide) ?_
  refine g_aload_n B dX5_digestOfEdges_26 0 rfl ?_
  refine g_iload B dX5_digestOfEdges_27 3 rfl ?_
  refine g_iload B dX5_digestOfEdges_29 4 rfl ?_
  refine g_callP (g_runV (q0 := 0) (ci := 5) B hK rfl rfl (PM.met (k_ofEdge_v0 l (D := D) (cI := cI) (cL := cL) (cZ := cZ) hb hp ht hg ha hq a0 a1 a2 a3 14 (by omega))) (gPp.pre (av := [.ref hb, .int (14 : Int32), .int (0 : Int32)]) (wc := [(hb, .inr (5, [.ref hp, .ref ht, .ref hg, .ref ha, .ref hq])), (ha, .inr (0, [.ref a0, .ref a1, .ref a2, .ref a3, .int (0 : Int32), .long (0 : Int64)]))]) hK hN [0, 1] rfl (by decide)) gX5_digestOfEdges_X5_ofEdge rfl rfl kd_X5_ofEdge ⟨by decide, by decide⟩ (st := [.long (-9022451594530232172 : Int64)]) rfl (Nat.le_of_ble_eq_true rfl) dX5_digestOfEdges_31 ⟨by decide, by decide⟩) (fun u hu => ?_)
  refine g_i2l (v := (0 : Int64)) B dX5_digestOfEdges_34 (by decide) ?_
  refine g_ladd (v := (-9022451594530232172 : Int64)) B dX5_digestOfEdges_35 (by decide) ?_
  refine g_lstore_n (lv' := [(0, .ref hb), (1, .long (4895594554911372 : Int64)), (3, .long (-9022451594530232172 : Int64)), (5, .int (14 : Int32)), (6, .int (0 : Int32))]) B dX5_digestOfEdges_36 rfl (by decide) [1, 2, 0, 3, 4] rfl ?_
  refine g_iinc (lv' := [(0, .ref hb), (1, .long (4895594554911372 : Int64)), (3, .long (-9022451594530232172 : Int64)), (5, .int (14 : Int32)), (6, .int (1 : Int32))]) B dX5_digestOfEdges_37 4 rfl (by decide) (by decide) [1, 2, 3, 4, 0] rfl ?_
  refine g_goto (tgt := 15) B dX5_digestOfEdges_40 (by decide) ?_
  refine g_iload B dX5_digestOfEdges_15 4 rfl ?_
  refine g_iconst (v := (2 : Int32)) B dX5_digestOfEdges_17 (by decide) ?_
  refine g_icmp_gt (tgt := 43) B dX5_digestOfEdges_18 (by decide) (fun c116 => absurd c116 (by decide)) (fun _ => ?_)
  refine g_lload_n B dX5_digestOfEdges_21 2 rfl ?_
  refine g_ldc2 (v := (31 : Int64)) B dX5_digestOfEdges_22 (List.mem_of_getElem? (i := 1) rfl) ?_
  refine g_lmul (v := (-2994838324793923092 : Int64)) B dX5_digestOfEdges_25 (by decide) ?_
  refine g_aload_n B dX5_digestOfEdges_26 0 rfl ?_
  refine g_iload B dX5_digestOfEdges_27 3 rfl ?_
  refine g_iload B dX5_digestOfEdges_29 4 rfl ?_
  refine g_callP (g_runV (q0 := 0) (ci := 5) B hK rfl rfl (PM.met (k_ofEdge_v1 l (D := D) (cI := cI) (cL := cL) (cZ := cZ) hb hp ht hg ha hq a0 a1 a2 a3 14 (by omega))) (gPp.pre (av := [.ref hb, .int (14 : Int32), .int (1 : Int32)]) (wc := [(hb, .inr (5, [.ref hp, .ref ht, .ref hg, .ref ha, .ref hq])), (ha, .inr (0, [.ref a0, .ref a1, .ref a2, .ref a3, .int (0 : Int32), .long (0 : Int64)]))]) hK hN [0, 1] rfl (by decide)) gX5_digestOfEdges_X5_ofEdge rfl rfl kd_X5_ofEdge ⟨by decide, by decide⟩ (st := [.long (-2994838324793923092 : Int64)]) rfl (Nat.le_of_ble_eq_true rfl) dX5_digestOfEdges_31 ⟨by decide, by decide⟩) (fun u hu => ?_)
  refine g_i2l (v := (0 : Int64)) B dX5_digestOfEdges_34 (by decide) ?_
  refine g_ladd (v := (-2994838324793923092 : Int64)) B dX5_digestOfEdges_35 (by decide) ?_
  refine g_lstore_n (lv' := [(0, .ref hb), (1, .long (4895594554911372 : Int64)), (3, .long (-2994838324793923092 : Int64)), (5, .int (14 : Int32)), (6, .int (1 : Int32))]) B dX5_digestOfEdges_36 rfl (by decide) [1, 2, 0, 3, 4] rfl ?_
  refine g_iinc (lv' := [(0, .ref hb), (1, .long (4895594554911372 : Int64)), (3, .long (-2994838324793923092 : Int64)), (5, .int (14 : Int32)), (6, .int (2 : Int32))]) B dX5_digestOfEdges_37 4 rfl (by decide) (by decide) [1, 2, 3, 4, 0] rfl ?_
  refine g_goto (tgt := 15) B dX5_digestOfEdges_40 (by decide) ?_
  refine g_iload B dX5_digestOfEdges_15 4 rfl ?_
  refine g_iconst (v := (2 : Int32)) B dX5_digestOfEdges_17 (by decide) ?_
  refine g_icmp_gt (tgt := 43) B dX5_digestOfEdges_18 (by decide) (fun c118 => absurd c118 (by decide)) (fun _ => ?_)
  refine g_lload_n B dX5_digestOfEdges_21 2 rfl ?_
  refine g_ldc2 (v := (31 : Int64)) B dX5_digestOfEdges_22 (List.mem_of_getElem? (i := 1) rfl) ?_
  refine g_lmul (v := (-606267700063857772 : Int64)) B dX5_digestOfEdges_25 (by decide) ?_
  refine g_aload_n B dX5_digestOfEdges_26 0 rfl ?_
  refine g_iload B dX5_digestOfEdges_27 3 rfl ?_
  refine g_iload B dX5_digestOfEdges_29 4 rfl ?_
  refine g_callP (g_runV (q0 := 0) (ci := 5) B hK rfl rfl (PM.met (k_ofEdge_v2 l (D := D) (cI := cI) (cL := cL) (cZ := cZ) hb hp ht hg ha hq a0 a1 a2 a3 14 (by omega))) (gPp.pre (av := [.ref hb, .int (14 : Int32), .int (2 : Int32)]) (wc := [(hb, .inr (5, [.ref hp, .ref ht, .ref hg, .ref ha, .ref hq])), (ha, .inr (0, [.ref a0, .ref a1, .ref a2, .ref a3, .int (0 : Int32), .long (0 : Int64)]))]) hK hN [0, 1] rfl (by decide)) gX5_digestOfEdges_X5_ofEdge rfl rfl kd_X5_ofEdge ⟨by decide, by decide⟩ (st := [.long (-606267700063857772 : Int64)]) rfl (Nat.le_of_ble_eq_true rfl) dX5_digestOfEdges_31 ⟨by decide, by decide⟩) (fun u hu => ?_)
  refine g_i2l (v := (-1 : Int64)) B dX5_digestOfEdges_34 (by decide) ?_
  refine g_ladd (v := (-606267700063857773 : Int64)) B dX5_digestOfEdges_35 (by decide) ?_
  refine g_lstore_n (lv' := [(0, .ref hb), (1, .long (4895594554911372 : Int64)), (3, .long (-606267700063857773 : Int64)), (5, .int (14 : Int32)), (6, .int (2 : Int32))]) B dX5_digestOfEdges_36 rfl (by decide) [1, 2, 0, 3, 4] rfl ?_
  refine g_iinc (lv' := [(0, .ref hb), (1, .long (4895594554911372 : Int64)), (3, .long (-606267700063857773 : Int64)), (5, .int (14 : Int32)), (6, .int (3 : Int32))]) B dX5_digestOfEdges_37 4 rfl (by decide) (by decide) [1, 2, 3, 4, 0] rfl ?_
  refine g_goto (tgt := 15) B dX5_digestOfEdges_40 (by decide) ?_
  refine g_iload B dX5_digestOfEdges_15 4 rfl ?_
  refine g_iconst (v := (2 : Int32)) B dX5_digestOfEdges_17 (by decide) ?_
  refine g_icmp_gt (tgt := 43) B dX5_digestOfEdges_18 (by decide) (fun _ => ?_) (fun c120 => absurd (by decide) c120)
  refine g_iinc (lv' := [(0, .ref hb), (1, .long (4895594554911372 : Int64)), (3, .long (-606267700063857773 : Int64)), (5, .int (15 : Int32)), (6, .int (3 : Int32))]) B dX5_digestOfEdges_43 3 rfl (by decide) (by decide) [1, 2, 3, 0, 4] rfl ?_
  refine g_goto (tgt := 5) B dX5_digestOfEdges_46 (by decide) ?_
  refine g_iload B dX5_digestOfEdges_5 3 rfl ?_
  refine g_bipush (v := (24 : Int32)) B dX5_digestOfEdges_7 (by decide) ?_
  refine g_icmp_ge (tgt := 49) B dX5_digestOfEdges_9 (by decide) (fun c121 => absurd c121 (by decide)) (fun _ => ?_)
  refine g_iconst (v := (0 : Int32)) B dX5_digestOfEdges_12 (by decide) ?_
  refine g_istore (lv' := [(0, .ref hb), (1, .long (4895594554911372 : Int64)), (3, .long (-606267700063857773 : Int64)), (5, .int (15 : Int32)), (6, .int (0 : Int32))]) B dX5_digestOfEdges_13 (by decide) [1, 2, 3, 4, 0] rfl ?_
  refine g_iload B dX5_digestOfEdges_15 4 rfl ?_
  refine g_iconst (v := (2 : Int32)) B dX5_digestOfEdges_17 (by decide) ?_
  refine g_icmp_gt (tgt := 43) B dX5_digestOfEdges_18 (by decide) (fun c122 => absurd c122 (by decide)) (fun _ => ?_)
  refine g_lload_n B dX5_digestOfEdges_21 2 rfl ?_
  refine g_ldc2 (v := (31 : Int64)) B dX5_digestOfEdges_22 (List.mem_of_getElem? (i := 1) rfl) ?_
  refine g_lmul (v := (-347554628270039347 : Int64)) B dX5_digestOfEdges_25 (by decide) ?_
  refine g_aload_n B dX5_digestOfEdges_26 0 rfl ?_
  refine g_iload B dX5_digestOfEdges_27 3 rfl ?_
  refine g_iload B dX5_digestOfEdges_29 4 rfl ?_
  refine g_callP (g_runV (q0 := 0) (ci := 5) B hK rfl rfl (PM.met (k_ofEdge_v0 l (D := D) (cI := cI) (cL := cL) (cZ := cZ) hb hp ht hg ha hq a0 a1 a2 a3 15 (by omega))) (gPp.pre (av := [.ref hb, .int (15 : Int32), .int (0 : Int32)]) (wc := [(hb, .inr (5, [.ref hp, .ref ht, .ref hg, .ref ha, .ref hq])), (ha, .inr (0, [.ref a0, .ref a1, .ref a2, .ref a3, .int (0 : Int32), .long (0 : Int64)]))]) hK hN [0, 1] rfl (by decide)) gX5_digestOfEdges_X5_ofEdge rfl rfl kd_X5_ofEdge ⟨by decide, by decide⟩ (st := [.long (-347554628270039347 : Int64)]) rfl (Nat.le_of_ble_eq_true rfl) dX5_digestOfEdges_31 ⟨by decide, by decide⟩) (fun u hu => ?_)
  refine g_i2l (v := (0 : Int64)) B dX5_digestOfEdges_34 (by decide) ?_
  refine g_ladd (v := (-347554628270039347 : Int64)) B dX5_digestOfEdges_35 (by decide) ?_
  refine g_lstore_n (lv' := [(0, .ref hb), (1, .long (4895594554911372 : Int64)), (3, .long (-347554628270039347 : Int64)), (5, .int (15 : Int32)), (6, .int (0 : Int32))]) B dX5_digestOfEdges_36 rfl (by decide) [1, 2, 0, 3, 4] rfl ?_
  refine g_iinc (lv' := [(0, .ref hb), (1, .long (4895594554911372 : Int64)), (3, .long (-347554628270039347 : Int64)), (5, .int (15 : Int32)), (6, .int (1 : Int32))]) B dX5_digestOfEdges_37 4 rfl (by decide) (by decide) [1, 2, 3, 4, 0] rfl ?_
  refine g_goto (tgt := 15) B dX5_digestOfEdges_40 (by decide) ?_
  refine g_iload B dX5_digestOfEdges_15 4 rfl ?_
  refine g_iconst (v := (2 : Int32)) B dX5_digestOfEdges_17 (by decide) ?_
  refine g_icmp_gt (tgt := 43) B dX5_digestOfEdges_18 (by decide) (fun c124 => absurd c124 (by decide)) (fun _ => ?_)
  refine g_lload_n B dX5_digestOfEdges_21 2 rfl ?_
  refine g_ldc2 (v := (31 : Int64)) B dX5_digestOfEdges_22 (List.mem_of_getElem? (i := 1) rfl) ?_
  refine g_lmul (v := (7672550597338331859 : Int64)) B dX5_digestOfEdges_25 (by decide) ?_
  refine g_aload_n B dX5_digestOfEdges_26 0 rfl ?_
  refine g_iload B dX5_digestOfEdges_27 3 rfl ?_
  refine g_iload B dX5_digestOfEdges_29 4 rfl ?_
  refine g_callP (g_runV (q0 := 0) (ci := 5) B hK rfl rfl (PM.met (k_ofEdge_v1 l (D := D) (cI := cI) (cL := cL) (cZ := cZ) hb hp ht hg ha hq a0 a1 a2 a3 15 (by omega))) (gPp.pre (av := [.ref hb, .int (15 : Int32), .int (1 : Int32)]) (wc := [(hb, .inr (5, [.ref hp, .ref ht, .ref hg, .ref ha, .ref hq])), (ha, .inr (0, [.ref a0, .ref a1, .ref a2, .ref a3, .int (0 : Int32), .long (0 : Int64)]))]) hK hN [0, 1] rfl (by decide)) gX5_digestOfEdges_X5_ofEdge rfl rfl kd_X5_ofEdge ⟨by decide, by decide⟩ (st := [.long (7672550597338331859 : Int64)]) rfl (Nat.le_of_ble_eq_true rfl) dX5_digestOfEdges_31 ⟨by decide, by decide⟩) (fun u hu => ?_)
  refine g_i2l (v := (0 : Int64)) B dX5_digestOfEdges_34 (by decide) ?_
  refine g_ladd (v := (7672550597338331859 : Int64)) B dX5_digestOfEdges_35 (by decide) ?_
  refine g_lstore_n (lv' := [(0, .ref hb), (1, .long (4895594554911372 : Int64)), (3, .long (7672550597338331859 : Int64)), (5, .int (15 : Int32)), (6, .int (1 : Int32))]) B dX5_digestOfEdges_36 rfl (by decide) [1, 2, 0, 3, 4] rfl ?_
  refine g_iinc (lv' := [(0, .ref hb), (1, .long (4895594554911372 : Int64)), (3, .long (7672550597338331859 : Int64)), (5, .int (15 : Int32)), (6, .int (2 : Int32))]) B dX5_digestOfEdges_37 4 rfl (by decide) (by decide) [1, 2, 3, 4, 0] rfl ?_
  refine g_goto (tgt := 15) B dX5_digestOfEdges_40 (by decide) ?_
  refine g_iload B dX5_digestOfEdges_15 4 rfl ?_
  refine g_iconst (v := (2 : Int32)) B dX5_digestOfEdges_17 (by decide) ?_
  refine g_icmp_gt (tgt := 43) B dX5_digestOfEdges_18 (by decide) (fun c126 => absurd c126 (by decide)) (fun _ => ?_)
  refine g_lload_n B dX5_digestOfEdges_21 2 rfl ?_
  refine g_ldc2 (v := (31 : Int64)) B dX5_digestOfEdges_22 (List.mem_of_getElem? (i := 1) rfl) ?_
  refine g_lmul (v := (-1958604440735883379 : Int64)) B dX5_digestOfEdges_25 (by decide) ?_
  refine g_aload_n B dX5_digestOfEdges_26 0 rfl ?_
  refine g_iload B dX5_digestOfEdges_27 3 rfl ?_
  refine g_iload B dX5_digestOfEdges_29 4 rfl ?_
  refine g_callP (g_runV (q0 := 0) (ci := 5) B hK rfl rfl (PM.met (k_ofEdge_v2 l (D := D) (cI := cI) (cL := cL) (cZ := cZ) hb hp ht hg ha hq a0 a1 a2 a3 15 (by omega))) (gPp.pre (av := [.ref hb, .int (15 : Int32), .int (2 : Int32)]) (wc := [(hb, .inr (5, [.ref hp, .ref ht, .ref hg, .ref ha, .ref hq])), (ha, .inr (0, [.ref a0, .ref a1, .ref a2, .ref a3, .int (0 : Int32), .long (0 : Int64)]))]) hK hN [0, 1] rfl (by decide)) gX5_digestOfEdges_X5_ofEdge rfl rfl kd_X5_ofEdge ⟨by decide, by decide⟩ (st := [.long (-1958604440735883379 : Int64)]) rfl (Nat.le_of_ble_eq_true rfl) dX5_digestOfEdges_31 ⟨by decide, by decide⟩) (fun u hu => ?_)
  refine g_i2l (v := (-1 : Int64)) B dX5_digestOfEdges_34 (by decide) ?_
  refine g_ladd (v := (-1958604440735883380 : Int64)) B dX5_digestOfEdges_35 (by decide) ?_
  refine g_lstore_n (lv' := [(0, .ref hb), (1, .long (4895594554911372 : Int64)), (3, .long (-1958604440735883380 : Int64)), (5, .int (15 : Int32)), (6, .int (2 : Int32))]) B dX5_digestOfEdges_36 rfl (by decide) [1, 2, 0, 3, 4] rfl ?_
  refine g_iinc (lv' := [(0, .ref hb), (1, .long (4895594554911372 : Int64)), (3, .long (-1958604440735883380 : Int64)), (5, .int (15 : Int32)), (6, .int (3 : Int32))]) B dX5_digestOfEdges_37 4 rfl (by decide) (by decide) [1, 2, 3, 4, 0] rfl ?_
  refine g_goto (tgt := 15) B dX5_digestOfEdges_40 (by decide) ?_
  refine g_iload B dX5_digestOfEdges_15 4 rfl ?_
  refine g_iconst (v := (2 : Int32)) B dX5_digestOfEdges_17 (by decide) ?_
  refine g_icmp_gt (tgt := 43) B dX5_digestOfEdges_18 (by decide) (fun _ => ?_) (fun c128 => absurd (by decide) c128)
  refine g_iinc (lv' := [(0, .ref hb), (1, .long (4895594554911372 : Int64)), (3, .long (-1958604440735883380 : Int64)), (5, .int (16 : Int32)), (6, .int (3 : Int32))]) B dX5_digestOfEdges_43 3 rfl (by decide) (by decide) [1, 2, 3, 0, 4] rfl ?_
  refine g_goto (tgt := 5) B dX5_digestOfEdges_46 (by decide) ?_
  refine g_iload B dX5_digestOfEdges_5 3 rfl ?_
  refine g_bipush (v := (24 : Int32)) B dX5_digestOfEdges_7 (by decide) ?_
  refine g_icmp_ge (tgt := 49) B dX5_digestOfEdges_9 (by decide) (fun c129 => absurd c129 (by decide)) (fun _ => ?_)
  refine g_iconst (v := (0 : Int32)) B dX5_digestOfEdges_12 (by decide) ?_
  refine g_istore (lv' := [(0, .ref hb), (1, .long (4895594554911372 : Int64)), (3, .long (-1958604440735883380 : Int64)), (5, .int (16 : Int32)), (6, .int (0 : Int32))]) B dX5_digestOfEdges_13 (by decide) [1, 2, 3, 4, 0] rfl ?_
  refine g_iload B dX5_digestOfEdges_15 4 rfl ?_
  refine g_iconst (v := (2 : Int32)) B dX5_digestOfEdges_17 (by decide) ?_
  refine g_icmp_gt (tgt := 43) B dX5_digestOfEdges_18 (by decide) (fun c130 => absurd c130 (by decide)) (fun _ => ?_)
  refine g_lload_n B dX5_digestOfEdges_21 2 rfl ?_
  refine g_ldc2 (v := (31 : Int64)) B dX5_digestOfEdges_22 (List.mem_of_getElem? (i := 1) rfl) ?_
  refine g_lmul (v := (-5376505441683729932 : Int64)) B dX5_digestOfEdges_25 (by decide) ?_
  refine g_aload_n B dX5_digestOfEdges_26 0 rfl ?_
  refine g_iload B dX5_digestOfEdges_27 3 rfl ?_
  refine g_iload B dX5_digestOfEdges_29 4 rfl ?_
  refine g_callP (g_runV (q0 := 0) (ci := 5) B hK rfl rfl (PM.met (k_ofEdge_v0 l (D := D) (cI := cI) (cL := cL) (cZ := cZ) hb hp ht hg ha hq a0 a1 a2 a3 16 (by omega))) (gPp.pre (av := [.ref hb, .int (16 : Int32), .int (0 : Int32)]) (wc := [(hb, .inr (5, [.ref hp, .ref ht, .ref hg, .ref ha, .ref hq])), (ha, .inr (0, [.ref a0, .ref a1, .ref a2, .ref a3, .int (0 : Int32), .long (0 : Int64)]))]) hK hN [0, 1] rfl (by decide)) gX5_digestOfEdges_X5_ofEdge rfl rfl kd_X5_ofEdge ⟨by decide, by decide⟩ (st := [.long (-5376505441683729932 : Int64)]) rfl (Nat.le_of_ble_eq_true rfl) dX5_digestOfEdges_31 ⟨by decide, by decide⟩) (fun u hu => ?_)
  refine g_i2l (v := (0 : Int64)) B dX5_digestOfEdges_34 (by decide) ?_
  refine g_ladd (v := (-5376505441683729932 : Int64)) B dX5_digestOfEdges_35 (by decide) ?_
  refine g_lstore_n (lv' := [(0, .ref hb), (1, .long (4895594554911372 : Int64)), (3, .long (-5376505441683729932 : Int64)), (5, .int (16 : Int32)), (6, .int (0 : Int32))]) B dX5_digestOfEdges_36 rfl (by decide) [1, 2, 0, 3, 4] rfl ?_
  refine g_iinc (lv' := [(0, .ref hb), (1, .long (4895594554911372 : Int64)), (3, .long (-5376505441683729932 : Int64)), (5, .int (16 : Int32)), (6, .int (1 : Int32))]) B dX5_digestOfEdges_37 4 rfl (by decide) (by decide) [1, 2, 3, 4, 0] rfl ?_
  refine g_goto (tgt := 15) B dX5_digestOfEdges_40 (by decide) ?_
  refine g_iload B dX5_digestOfEdges_15 4 rfl ?_
  refine g_iconst (v := (2 : Int32)) B dX5_digestOfEdges_17 (by decide) ?_
  refine g_icmp_gt (tgt := 43) B dX5_digestOfEdges_18 (by decide) (fun c132 => absurd c132 (by decide)) (fun _ => ?_)
  refine g_lload_n B dX5_digestOfEdges_21 2 rfl ?_
  refine g_ldc2 (v := (31 : Int64)) B dX5_digestOfEdges_22 (List.mem_of_getElem? (i := 1) rfl) ?_
  refine g_lmul (v := (-650972028809663348 : Int64)) B dX5_digestOfEdges_25 (by decide) ?_
  refine g_aload_n B dX5_digestOfEdges_26 0 rfl ?_
  refine g_iload B dX5_digestOfEdges_27 3 rfl ?_
  refine g_iload B dX5_digestOfEdges_29 4 rfl ?_
  refine g_callP (g_runV (q0 := 0) (ci := 5) B hK rfl rfl (PM.met (k_ofEdge_v1 l (D := D) (cI := cI) (cL := cL) (cZ := cZ) hb hp ht hg ha hq a0 a1 a2 a3 16 (by omega))) (gPp.pre (av := [.ref hb, .int (16 : Int32), .int (1 : Int32)]) (wc := [(hb, .inr (5, [.ref hp, .ref ht, .ref hg, .ref ha, .ref hq])), (ha, .inr (0, [.ref a0, .ref a1, .ref a2, .ref a3, .int (0 : Int32), .long (0 : Int64)]))]) hK hN [0, 1] rfl (by decide)) gX5_digestOfEdges_X5_ofEdge rfl rfl kd_X5_ofEdge ⟨by decide, by decide⟩ (st := [.long (-650972028809663348 : Int64)]) rfl (Nat.le_of_ble_eq_true rfl) dX5_digestOfEdges_31 ⟨by decide, by decide⟩) (fun u hu => ?_)
  refine g_i2l (v := (0 : Int64)) B dX5_digestOfEdges_34 (by decide) ?_
  refine g_ladd (v := (-650972028809663348 : Int64)) B dX5_digestOfEdges_35 (by decide) ?_
  refine g_lstore_n (lv' := [(0, .ref hb), (1, .long (4895594554911372 : Int64)), (3, .long (-650972028809663348 : Int64)), (5, .int (16 : Int32)), (6, .int (1 : Int32))]) B dX5_digestOfEdges_36 rfl (by decide) [1, 2, 0, 3, 4] rfl ?_
  refine g_iinc (lv' := [(0, .ref hb), (1, .long (4895594554911372 : Int64)), (3, .long (-650972028809663348 : Int64)), (5, .int (16 : Int32)), (6, .int (2 : Int32))]) B dX5_digestOfEdges_37 4 rfl (by decide) (by decide) [1, 2, 3, 4, 0] rfl ?_
  refine g_goto (tgt := 15) B dX5_digestOfEdges_40 (by decide) ?_
  refine g_iload B dX5_digestOfEdges_15 4 rfl ?_
  refine g_iconst (v := (2 : Int32)) B dX5_digestOfEdges_17 (by decide) ?_
  refine g_icmp_gt (tgt := 43) B dX5_digestOfEdges_18 (by decide) (fun c134 => absurd c134 (by decide)) (fun _ => ?_)
  refine g_lload_n B dX5_digestOfEdges_21 2 rfl ?_
  refine g_ldc2 (v := (31 : Int64)) B dX5_digestOfEdges_22 (List.mem_of_getElem? (i := 1) rfl) ?_
  refine g_lmul (v := (-1733388819390012172 : Int64)) B dX5_digestOfEdges_25 (by decide) ?_
  refine g_aload_n B dX5_digestOfEdges_26 0 rfl ?_
  refine g_iload B dX5_digestOfEdges_27 3 rfl ?_
  refine g_iload B dX5_digestOfEdges_29 4 rfl ?_
  refine g_callP (g_runV (q0 := 0) (ci := 5) B hK rfl rfl (PM.met (k_ofEdge_v2 l (D := D) (cI := cI) (cL := cL) (cZ := cZ) hb hp ht hg ha hq a0 a1 a2 a3 16 (by omega))) (gPp.pre (av := [.ref hb, .int (16 : Int32), .int (2 : Int32)]) (wc := [(hb, .inr (5, [.ref hp, .ref ht, .ref hg, .ref ha, .ref hq])), (ha, .inr (0, [.ref a0, .ref a1, .ref a2, .ref a3, .int (0 : Int32), .long (0 : Int64)]))]) hK hN [0, 1] rfl (by decide)) gX5_digestOfEdges_X5_ofEdge rfl rfl kd_X5_ofEdge ⟨by decide, by decide⟩ (st := [.long (-1733388819390012172 : Int64)]) rfl (Nat.le_of_ble_eq_true rfl) dX5_digestOfEdges_31 ⟨by decide, by decide⟩) (fun u hu => ?_)
  refine g_i2l (v := (-1 : Int64)) B dX5_digestOfEdges_34 (by decide) ?_
  refine g_ladd (v := (-1733388819390012173 : Int64)) B dX5_digestOfEdges_35 (by decide) ?_
  refine g_lstore_n (lv' := [(0, .ref hb), (1, .long (4895594554911372 : Int64)), (3, .long (-1733388819390012173 : Int64)), (5, .int (16 : Int32)), (6, .int (2 : Int32))]) B dX5_digestOfEdges_36 rfl (by decide) [1, 2, 0, 3, 4] rfl ?_
  refine g_iinc (lv' := [(0, .ref hb), (1, .long (4895594554911372 : Int64)), (3, .long (-1733388819390012173 : Int64)), (5, .int (16 : Int32)), (6, .int (3 : Int32))]) B dX5_digestOfEdges_37 4 rfl (by decide) (by decide) [1, 2, 3, 4, 0] rfl ?_
  refine g_goto (tgt := 15) B dX5_digestOfEdges_40 (by decide) ?_
  refine g_iload B dX5_digestOfEdges_15 4 rfl ?_
  refine g_iconst (v := (2 : Int32)) B dX5_digestOfEdges_17 (by decide) ?_
  refine g_icmp_gt (tgt := 43) B dX5_digestOfEdges_18 (by decide) (fun _ => ?_) (fun c136 => absurd (by decide) c136)
  refine g_iinc (lv' := [(0, .ref hb), (1, .long (4895594554911372 : Int64)), (3, .long (-1733388819390012173 : Int64)), (5, .int (17 : Int32)), (6, .int (3 : Int32))]) B dX5_digestOfEdges_43 3 rfl (by decide) (by decide) [1, 2, 3, 0, 4] rfl ?_
  refine g_goto (tgt := 5) B dX5_digestOfEdges_46 (by decide) ?_
  refine g_iload B dX5_digestOfEdges_5 3 rfl ?_
  refine g_bipush (v := (24 : Int32)) B dX5_digestOfEdges_7 (by decide) ?_
  refine g_icmp_ge (tgt := 49) B dX5_digestOfEdges_9 (by decide) (fun c137 => absurd c137 (by decide)) (fun _ => ?_)
  refine g_iconst (v := (0 : Int32)) B dX5_digestOfEdges_12 (by decide) ?_
  refine g_istore (lv' := [(0, .ref hb), (1, .long (4895594554911372 : Int64)), (3, .long (-1733388819390012173 : Int64)), (5, .int (17 : Int32)), (6, .int (0 : Int32))]) B dX5_digestOfEdges_13 (by decide) [1, 2, 3, 4, 0] rfl ?_
  refine g_iload B dX5_digestOfEdges_15 4 rfl ?_
  refine g_iconst (v := (2 : Int32)) B dX5_digestOfEdges_17 (by decide) ?_
  refine g_icmp_gt (tgt := 43) B dX5_digestOfEdges_18 (by decide) (fun c138 => absurd c138 (by decide)) (fun _ => ?_)
  refine g_lload_n B dX5_digestOfEdges_21 2 rfl ?_
  refine g_ldc2 (v := (31 : Int64)) B dX5_digestOfEdges_22 (List.mem_of_getElem? (i := 1) rfl) ?_
  refine g_lmul (v := (1605178820038277485 : Int64)) B dX5_digestOfEdges_25 (by decide) ?_
  refine g_aload_n B dX5_digestOfEdges_26 0 rfl ?_
  refine g_iload B dX5_digestOfEdges_27 3 rfl ?_
  refine g_iload B dX5_digestOfEdges_29 4 rfl ?_
  refine g_callP (g_runV (q0 := 0) (ci := 5) B hK rfl rfl (PM.met (k_ofEdge_v0 l (D := D) (cI := cI) (cL := cL) (cZ := cZ) hb hp ht hg ha hq a0 a1 a2 a3 17 (by omega))) (gPp.pre (av := [.ref hb, .int (17 : Int32), .int (0 : Int32)]) (wc := [(hb, .inr (5, [.ref hp, .ref ht, .ref hg, .ref ha, .ref hq])), (ha, .inr (0, [.ref a0, .ref a1, .ref a2, .ref a3, .int (0 : Int32), .long (0 : Int64)]))]) hK hN [0, 1] rfl (by decide)) gX5_digestOfEdges_X5_ofEdge rfl rfl kd_X5_ofEdge ⟨by decide, by decide⟩ (st := [.long (1605178820038277485 : Int64)]) rfl (Nat.le_of_ble_eq_true rfl) dX5_digestOfEdges_31 ⟨by decide, by decide⟩) (fun u hu => ?_)
  refine g_i2l (v := (0 : Int64)) B dX5_digestOfEdges_34 (by decide) ?_
  refine g_ladd (v := (1605178820038277485 : Int64)) B dX5_digestOfEdges_35 (by decide) ?_
  refine g_lstore_n (lv' := [(0, .ref hb), (1, .long (4895594554911372 : Int64)), (3, .long (1605178820038277485 : Int64)), (5, .int (17 : Int32)), (6, .int (0 : Int32))]) B dX5_digestOfEdges_36 rfl (by decide) [1, 2, 0, 3, 4] rfl ?_
  refine g_iinc (lv' := [(0, .ref hb), (1, .long (4895594554911372 : Int64)), (3, .long (1605178820038277485 : Int64)), (5, .int (17 : Int32)), (6, .int (1 : Int32))]) B dX5_digestOfEdges_37 4 rfl (by decide) (by decide) [1, 2, 3, 4, 0] rfl ?_
  refine g_goto (tgt := 15) B dX5_digestOfEdges_40 (by decide) ?_
  refine g_iload B dX5_digestOfEdges_15 4 rfl ?_
  refine g_iconst (v := (2 : Int32)) B dX5_digestOfEdges_17 (by decide) ?_
  refine g_icmp_gt (tgt := 43) B dX5_digestOfEdges_18 (by decide) (fun c140 => absurd c140 (by decide)) (fun _ => ?_)
  refine g_lload_n B dX5_digestOfEdges_21 2 rfl ?_
  refine g_ldc2 (v := (31 : Int64)) B dX5_digestOfEdges_22 (List.mem_of_getElem? (i := 1) rfl) ?_
  refine g_lmul (v := (-5579688799942052813 : Int64)) B dX5_digestOfEdges_25 (by decide) ?_
  refine g_aload_n B dX5_digestOfEdges_26 0 rfl ?_
  refine g_iload B dX5_digestOfEdges_27 3 rfl ?_
  refine g_iload B dX5_digestOfEdges_29 4 rfl ?_
  refine g_callP (g_runV (q0 := 0) (ci := 5) B hK rfl rfl (PM.met (k_ofEdge_v1 l (D := D) (cI := cI) (cL := cL) (cZ := cZ) hb hp ht hg ha hq a0 a1 a2 a3 17 (by omega))) (gPp.pre (av := [.ref hb, .int (17 : Int32), .int (1 : Int32)]) (wc := [(hb, .inr (5, [.ref hp, .ref ht, .ref hg, .ref ha, .ref hq])), (ha, .inr (0, [.ref a0, .ref a1, .ref a2, .ref a3, .int (0 : Int32), .long (0 : Int64)]))]) hK hN [0, 1] rfl (by decide)) gX5_digestOfEdges_X5_ofEdge rfl rfl kd_X5_ofEdge ⟨by decide, by decide⟩ (st := [.long (-5579688799942052813 : Int64)]) rfl (Nat.le_of_ble_eq_true rfl) dX5_digestOfEdges_31 ⟨by decide, by decide⟩) (fun u hu => ?_)
  refine g_i2l (v := (0 : Int64)) B dX5_digestOfEdges_34 (by decide) ?_
  refine g_ladd (v := (-5579688799942052813 : Int64)) B dX5_digestOfEdges_35 (by decide) ?_
  refine g_lstore_n (lv' := [(0, .ref hb), (1, .long (4895594554911372 : Int64)), (3, .long (-5579688799942052813 : Int64)), (5, .int (17 : Int32)), (6, .int (1 : Int32))]) B dX5_digestOfEdges_36 rfl (by decide) [1, 2, 0, 3, 4] rfl ?_
  refine g_iinc (lv' := [(0, .ref hb), (1, .long (4895594554911372 : Int64)), (3, .long (-5579688799942052813 : Int64)), (5, .int (17 : Int32)), (6, .int (2 : Int32))]) B dX5_digestOfEdges_37 4 rfl (by decide) (by decide) [1, 2, 3, 4, 0] rfl ?_
  refine g_goto (tgt := 15) B dX5_digestOfEdges_40 (by decide) ?_
  refine g_iload B dX5_digestOfEdges_15 4 rfl ?_
  refine g_iconst (v := (2 : Int32)) B dX5_digestOfEdges_17 (by decide) ?_
  refine g_icmp_gt (tgt := 43) B dX5_digestOfEdges_18 (by decide) (fun c142 => absurd c142 (by decide)) (fun _ => ?_)
  refine g_lload_n B dX5_digestOfEdges_21 2 rfl ?_
  refine g_ldc2 (v := (31 : Int64)) B dX5_digestOfEdges_22 (List.mem_of_getElem? (i := 1) rfl) ?_
  refine g_lmul (v := (-6949656134817672659 : Int64)) B dX5_digestOfEdges_25 (by decide) ?_
  refine g_aload_n B dX5_digestOfEdges_26 0 rfl ?_
  refine g_iload B dX5_digestOfEdges_27 3 rfl ?_
  refine g_iload B dX5_digestOfEdges_29 4 rfl ?_
  refine g_callP (g_runV (q0 := 0) (ci := 5) B hK rfl rfl (PM.met (k_ofEdge_v2 l (D := D) (cI := cI) (cL := cL) (cZ := cZ) hb hp ht hg ha hq a0 a1 a2 a3 17 (by omega))) (gPp.pre (av := [.ref hb, .int (17 : Int32), .int (2 : Int32)]) (wc := [(hb, .inr (5, [.ref hp, .ref ht, .ref hg, .ref ha, .ref hq])), (ha, .inr (0, [.ref a0, .ref a1, .ref a2, .ref a3, .int (0 : Int32), .long (0 : Int64)]))]) hK hN [0, 1] rfl (by decide)) gX5_digestOfEdges_X5_ofEdge rfl rfl kd_X5_ofEdge ⟨by decide, by decide⟩ (st := [.long (-6949656134817672659 : Int64)]) rfl (Nat.le_of_ble_eq_true rfl) dX5_digestOfEdges_31 ⟨by decide, by decide⟩) (fun u hu => ?_)
  refine g_i2l (v := (-1 : Int64)) B dX5_digestOfEdges_34 (by decide) ?_
  refine g_ladd (v := (-6949656134817672660 : Int64)) B dX5_digestOfEdges_35 (by decide) ?_
  refine g_lstore_n (lv' := [(0, .ref hb), (1, .long (4895594554911372 : Int64)), (3, .long (-6949656134817672660 : Int64)), (5, .int (17 : Int32)), (6, .int (2 : Int32))]) B dX5_digestOfEdges_36 rfl (by decide) [1, 2, 0, 3, 4] rfl ?_
  refine g_iinc (lv' := [(0, .ref hb), (1, .long (4895594554911372 : Int64)), (3, .long (-6949656134817672660 : Int64)), (5, .int (17 : Int32)), (6, .int (3 : Int32))]) B dX5_digestOfEdges_37 4 rfl (by decide) (by decide) [1, 2, 3, 4, 0] rfl ?_
  refine g_goto (tgt := 15) B dX5_digestOfEdges_40 (by decide) ?_
  refine g_iload B dX5_digestOfEdges_15 4 rfl ?_
  refine g_iconst (v := (2 : Int32)) B dX5_digestOfEdges_17 (by decide) ?_
  refine g_icmp_gt (tgt := 43) B dX5_digestOfEdges_18 (by decide) (fun _ => ?_) (fun c144 => absurd (by decide) c144)
  refine g_iinc (lv' := [(0, .ref hb), (1, .long (4895594554911372 : Int64)), (3, .long (-6949656134817672660 : Int64)), (5, .int (18 : Int32)), (6, .int (3 : Int32))]) B dX5_digestOfEdges_43 3 rfl (by decide) (by decide) [1, 2, 3, 0, 4] rfl ?_
  refine g_goto (tgt := 5) B dX5_digestOfEdges_46 (by decide) ?_
  refine g_iload B dX5_digestOfEdges_5 3 rfl ?_
  refine g_bipush (v := (24 : Int32)) B dX5_digestOfEdges_7 (by decide) ?_
  refine g_icmp_ge (tgt := 49) B dX5_digestOfEdges_9 (by decide) (fun c145 => absurd c145 (by decide)) (fun _ => ?_)
  refine g_iconst (v := (0 : Int32)) B dX5_digestOfEdges_12 (by decide) ?_
  refine g_istore (lv' := [(0, .ref hb), (1, .long (4895594554911372 : Int64)), (3, .long (-6949656134817672660 : Int64)), (5, .int (18 : Int32)), (6, .int (0 : Int32))]) B dX5_digestOfEdges_13 (by decide) [1, 2, 3, 4, 0] rfl ?_
  refine g_iload B dX5_digestOfEdges_15 4 rfl ?_
  refine g_iconst (v := (2 : Int32)) B dX5_digestOfEdges_17 (by decide) ?_
  refine g_icmp_gt (tgt := 43) B dX5_digestOfEdges_18 (by decide) (fun c146 => absurd c146 (by decide)) (fun _ => ?_)
  refine g_lload_n B dX5_digestOfEdges_21 2 rfl ?_
  refine g_ldc2 (v := (31 : Int64)) B dX5_digestOfEdges_22 (List.mem_of_getElem? (i := 1) rfl) ?_
  refine g_lmul (v := (5921588705166766932 : Int64)) B dX5_digestOfEdges_25 (by decide) ?_
  refine g_aload_n B dX5_digestOfEdges_26 0 rfl ?_
  refine g_iload B dX5_digestOfEdges_27 3 rfl ?_
  refine g_iload B dX5_digestOfEdges_29 4 rfl ?_
  refine g_callP (g_runV (q0 := 0) (ci := 5) B hK rfl rfl (PM.met (k_ofEdge_v0 l (D := D) (cI := cI) (cL := cL) (cZ := cZ) hb hp ht hg ha hq a0 a1 a2 a3 18 (by omega))) (gPp.pre (av := [.ref hb, .int (18 : Int32), .int (0 : Int32)]) (wc := [(hb, .inr (5, [.ref hp, .ref ht, .ref hg, .ref ha, .ref hq])), (ha, .inr (0, [.ref a0, .ref a1, .ref a2, .ref a3, .int (0 : Int32), .long (0 : Int64)]))]) hK hN [0, 1] rfl (by decide)) gX5_digestOfEdges_X5_ofEdge rfl rfl kd_X5_ofEdge ⟨by decide, by decide⟩ (st := [.long (5921588705166766932 : Int64)]) rfl (Nat.le_of_ble_eq_true rfl) dX5_digestOfEdges_31 ⟨by decide, by decide⟩) (fun u hu => ?_)
  refine g_i2l (v := (0 : Int64)) B dX5_digestOfEdges_34 (by decide) ?_
  refine g_ladd (v := (5921588705166766932 : Int64)) B dX5_digestOfEdges_35 (by decide) ?_
  refine g_lstore_n (lv' := [(0, .ref hb), (1, .long (4895594554911372 : Int64)), (3, .long (5921588705166766932 : Int64)), (5, .int (18 : Int32)), (6, .int (0 : Int32))]) B dX5_digestOfEdges_36 rfl (by decide) [1, 2, 0, 3, 4] rfl ?_
  refine g_iinc (lv' := [(0, .ref hb), (1, .long (4895594554911372 : Int64)), (3, .long (5921588705166766932 : Int64)), (5, .int (18 : Int32)), (6, .int (1 : Int32))]) B dX5_digestOfEdges_37 4 rfl (by decide) (by decide) [1, 2, 3, 4, 0] rfl ?_
  refine g_goto (tgt := 15) B dX5_digestOfEdges_40 (by decide) ?_
  refine g_iload B dX5_digestOfEdges_15 4 rfl ?_
  refine g_iconst (v := (2 : Int32)) B dX5_digestOfEdges_17 (by decide) ?_
  refine g_icmp_gt (tgt := 43) B dX5_digestOfEdges_18 (by decide) (fun c148 => absurd c148 (by decide)) (fun _ => ?_)
  refine g_lload_n B dX5_digestOfEdges_21 2 rfl ?_
  refine g_ldc2 (v := (31 : Int64)) B dX5_digestOfEdges_22 (List.mem_of_getElem? (i := 1) rfl) ?_
  refine g_lmul (v := (-898190876925741268 : Int64)) B dX5_digestOfEdges_25 (by decide) ?_
  refine g_aload_n B dX5_digestOfEdges_26 0 rfl ?_
  refine g_iload B dX5_digestOfEdges_27 3 rfl ?_
  refine g_iload B dX5_digestOfEdges_29 4 rfl ?_
  refine g_callP (g_runV (q0 := 0) (ci := 5) B hK rfl rfl (PM.met (k_ofEdge_v1 l (D := D) (cI := cI) (cL := cL) (cZ := cZ) hb hp ht hg ha hq a0 a1 a2 a3 18 (by omega))) (gPp.pre (av := [.ref hb, .int (18 : Int32), .int (1 : Int32)]) (wc := [(hb, .inr (5, [.ref hp, .ref ht, .ref hg, .ref ha, .ref hq])), (ha, .inr (0, [.ref a0, .ref a1, .ref a2, .ref a3, .int (0 : Int32), .long (0 : Int64)]))]) hK hN [0, 1] rfl (by decide)) gX5_digestOfEdges_X5_ofEdge rfl rfl kd_X5_ofEdge ⟨by decide, by decide⟩ (st := [.long (-898190876925741268 : Int64)]) rfl (Nat.le_of_ble_eq_true rfl) dX5_digestOfEdges_31 ⟨by decide, by decide⟩) (fun u hu => ?_)
  refine g_i2l (v := (0 : Int64)) B dX5_digestOfEdges_34 (by decide) ?_
  refine g_ladd (v := (-898190876925741268 : Int64)) B dX5_digestOfEdges_35 (by decide) ?_
  refine g_lstore_n (lv' := [(0, .ref hb), (1, .long (4895594554911372 : Int64)), (3, .long (-898190876925741268 : Int64)), (5, .int (18 : Int32)), (6, .int (1 : Int32))]) B dX5_digestOfEdges_36 rfl (by decide) [1, 2, 0, 3, 4] rfl ?_
  refine g_iinc (lv' := [(0, .ref hb), (1, .long (4895594554911372 : Int64)), (3, .long (-898190876925741268 : Int64)), (5, .int (18 : Int32)), (6, .int (2 : Int32))]) B dX5_digestOfEdges_37 4 rfl (by decide) (by decide) [1, 2, 3, 4, 0] rfl ?_
  refine g_goto (tgt := 15) B dX5_digestOfEdges_40 (by decide) ?_
  refine g_iload B dX5_digestOfEdges_15 4 rfl ?_
  refine g_iconst (v := (2 : Int32)) B dX5_digestOfEdges_17 (by decide) ?_
  refine g_icmp_gt (tgt := 43) B dX5_digestOfEdges_18 (by decide) (fun c150 => absurd c150 (by decide)) (fun _ => ?_)
  refine g_lload_n B dX5_digestOfEdges_21 2 rfl ?_
  refine g_ldc2 (v := (31 : Int64)) B dX5_digestOfEdges_22 (List.mem_of_getElem? (i := 1) rfl) ?_
  refine g_lmul (v := (9049570962721123924 : Int64)) B dX5_digestOfEdges_25 (by decide) ?_
  refine g_aload_n B dX5_digestOfEdges_26 0 rfl ?_
  refine g_iload B dX5_digestOfEdges_27 3 rfl ?_
  refine g_iload B dX5_digestOfEdges_29 4 rfl ?_
  refine g_callP (g_runV (q0 := 0) (ci := 5) B hK rfl rfl (PM.met (k_ofEdge_v2 l (D := D) (cI := cI) (cL := cL) (cZ := cZ) hb hp ht hg ha hq a0 a1 a2 a3 18 (by omega))) (gPp.pre (av := [.ref hb, .int (18 : Int32), .int (2 : Int32)]) (wc := [(hb, .inr (5, [.ref hp, .ref ht, .ref hg, .ref ha, .ref hq])), (ha, .inr (0, [.ref a0, .ref a1, .ref a2, .ref a3, .int (0 : Int32), .long (0 : Int64)]))]) hK hN [0, 1] rfl (by decide)) gX5_digestOfEdges_X5_ofEdge rfl rfl kd_X5_ofEdge ⟨by decide, by decide⟩ (st := [.long (9049570962721123924 : Int64)]) rfl (Nat.le_of_ble_eq_true rfl) dX5_digestOfEdges_31 ⟨by decide, by decide⟩) (fun u hu => ?_)
  refine g_i2l (v := (-1 : Int64)) B dX5_digestOfEdges_34 (by decide) ?_
  refine g_ladd (v := (9049570962721123923 : Int64)) B dX5_digestOfEdges_35 (by decide) ?_
  refine g_lstore_n (lv' := [(0, .ref hb), (1, .long (4895594554911372 : Int64)), (3, .long (9049570962721123923 : Int64)), (5, .int (18 : Int32)), (6, .int (2 : Int32))]) B dX5_digestOfEdges_36 rfl (by decide) [1, 2, 0, 3, 4] rfl ?_
  refine g_iinc (lv' := [(0, .ref hb), (1, .long (4895594554911372 : Int64)), (3, .long (9049570962721123923 : Int64)), (5, .int (18 : Int32)), (6, .int (3 : Int32))]) B dX5_digestOfEdges_37 4 rfl (by decide) (by decide) [1, 2, 3, 4, 0] rfl ?_
  refine g_goto (tgt := 15) B dX5_digestOfEdges_40 (by decide) ?_
  refine g_iload B dX5_digestOfEdges_15 4 rfl ?_
  refine g_iconst (v := (2 : Int32)) B dX5_digestOfEdges_17 (by decide) ?_
  refine g_icmp_gt (tgt := 43) B dX5_digestOfEdges_18 (by decide) (fun _ => ?_) (fun c152 => absurd (by decide) c152)
  refine g_iinc (lv' := [(0, .ref hb), (1, .long (4895594554911372 : Int64)), (3, .long (9049570962721123923 : Int64)), (5, .int (19 : Int32)), (6, .int (3 : Int32))]) B dX5_digestOfEdges_43 3 rfl (by decide) (by decide) [1, 2, 3, 0, 4] rfl ?_
  refine g_goto (tgt := 5) B dX5_digestOfEdges_46 (by decide) ?_
  refine g_iload B dX5_digestOfEdges_5 3 rfl ?_
  refine g_bipush (v := (24 : Int32)) B dX5_digestOfEdges_7 (by decide) ?_
  refine g_icmp_ge (tgt := 49) B dX5_digestOfEdges_9 (by decide) (fun c153 => absurd c153 (by decide)) (fun _ => ?_)
  refine g_iconst (v := (0 : Int32)) B dX5_digestOfEdges_12 (by decide) ?_
  refine g_istore (lv' := [(0, .ref hb), (1, .long (4895594554911372 : Int64)), (3, .long (9049570962721123923 : Int64)), (5, .int (19 : Int32)), (6, .int (0 : Int32))]) B dX5_digestOfEdges_13 (by decide) [1, 2, 3, 4, 0] rfl ?_
  refine g_iload B dX5_digestOfEdges_15 4 rfl ?_
  refine g_iconst (v := (2 : Int32)) B dX5_digestOfEdges_17 (by decide) ?_
  refine g_icmp_gt (tgt := 43) B dX5_digestOfEdges_18 (by decide) (fun c154 => absurd c154 (by decide)) (fun _ => ?_)
  refine g_lload_n B dX5_digestOfEdges_21 2 rfl ?_
  refine g_ldc2 (v := (31 : Int64)) B dX5_digestOfEdges_22 (List.mem_of_getElem? (i := 1) rfl) ?_
  refine g_lmul (v := (3835538738711567373 : Int64)) B dX5_digestOfEdges_25 (by decide) ?_
  refine g_aload_n B dX5_digestOfEdges_26 0 rfl ?_
  refine g_iload B dX5_digestOfEdges_27 3 rfl ?_
  refine g_iload B dX5_digestOfEdges_29 4 rfl ?_
  refine g_callP (g_runV (q0 := 0) (ci := 5) B hK rfl rfl (PM.met (k_ofEdge_v0 l (D := D) (cI := cI) (cL := cL) (cZ := cZ) hb hp ht hg ha hq a0 a1 a2 a3 19 (by omega))) (gPp.pre (av := [.ref hb, .int (19 : Int32), .int (0 : Int32)]) (wc := [(hb, .inr (5, [.ref hp, .ref ht, .ref hg, .ref ha, .ref hq])), (ha, .inr (0, [.ref a0, .ref a1, .ref a2, .ref a3, .int (0 : Int32), .long (0 : Int64)]))]) hK hN [0, 1] rfl (by decide)) gX5_digestOfEdges_X5_ofEdge rfl rfl kd_X5_ofEdge ⟨by decide, by decide⟩ (st := [.long (3835538738711567373 : Int64)]) rfl (Nat.le_of_ble_eq_true rfl) dX5_digestOfEdges_31 ⟨by decide, by decide⟩) (fun u hu => ?_)
  refine g_i2l (v := (0 : Int64)) B dX5_digestOfEdges_34 (by decide) ?_
  refine g_ladd (v := (3835538738711567373 : Int64)) B dX5_digestOfEdges_35 (by decide) ?_
  refine g_lstore_n (lv' := [(0, .ref hb), (1, .long (4895594554911372 : Int64)), (3, .long (3835538738711567373 : Int64)), (5, .int (19 : Int32)), (6, .int (0 : Int32))]) B dX5_digestOfEdges_36 rfl (by decide) [1, 2, 0, 3, 4] rfl ?_
  refine g_iinc (lv' := [(0, .ref hb), (1, .long (4895594554911372 : Int64)), (3, .long (3835538738711567373 : Int64)), (5, .int (19 : Int32)), (6, .int (1 : Int32))]) B dX5_digestOfEdges_37 4 rfl (by decide) (by decide) [1, 2, 3, 4, 0] rfl ?_
  refine g_goto (tgt := 15) B dX5_digestOfEdges_40 (by decide) ?_
  refine g_iload B dX5_digestOfEdges_15 4 rfl ?_
  refine g_iconst (v := (2 : Int32)) B dX5_digestOfEdges_17 (by decide) ?_
  refine g_icmp_gt (tgt := 43) B dX5_digestOfEdges_18 (by decide) (fun c156 => absurd c156 (by decide)) (fun _ => ?_)
  refine g_lload_n B dX5_digestOfEdges_21 2 rfl ?_
  refine g_ldc2 (v := (31 : Int64)) B dX5_digestOfEdges_22 (List.mem_of_getElem? (i := 1) rfl) ?_
  refine g_lmul (v := (8221236457801278867 : Int64)) B dX5_digestOfEdges_25 (by decide) ?_
  refine g_aload_n B dX5_digestOfEdges_26 0 rfl ?_
  refine g_iload B dX5_digestOfEdges_27 3 rfl ?_
  refine g_iload B dX5_digestOfEdges_29 4 rfl ?_
  refine g_callP (g_runV (q0 := 0) (ci := 5) B hK rfl rfl (PM.met (k_ofEdge_v1 l (D := D) (cI := cI) (cL := cL) (cZ := cZ) hb hp ht hg ha hq a0 a1 a2 a3 19 (by omega))) (gPp.pre (av := [.ref hb, .int (19 : Int32), .int (1 : Int32)]) (wc := [(hb, .inr (5, [.ref hp, .ref ht, .ref hg, .ref ha, .ref hq])), (ha, .inr (0, [.ref a0, .ref a1, .ref a2, .ref a3, .int (0 : Int32), .long (0 : Int64)]))]) hK hN [0, 1] rfl (by decide)) gX5_digestOfEdges_X5_ofEdge rfl rfl kd_X5_ofEdge ⟨by decide, by decide⟩ (st := [.long (8221236457801278867 : Int64)]) rfl (Nat.le_of_ble_eq_true rfl) dX5_digestOfEdges_31 ⟨by decide, by decide⟩) (fun u hu => ?_)
  refine g_i2l (v := (0 : Int64)) B dX5_digestOfEdges_34 (by decide) ?_
  refine g_ladd (v := (8221236457801278867 : Int64)) B dX5_digestOfEdges_35 (by decide) ?_
  refine g_lstore_n (lv' := [(0, .ref hb), (1, .long (4895594554911372 : Int64)), (3, .long (8221236457801278867 : Int64)), (5, .int (19 : Int32)), (6, .int (1 : Int32))]) B dX5_digestOfEdges_36 rfl (by decide) [1, 2, 0, 3, 4] rfl ?_
  refine g_iinc (lv' := [(0, .ref hb), (1, .long (4895594554911372 : Int64)), (3, .long (8221236457801278867 : Int64)), (5, .int (19 : Int32)), (6, .int (2 : Int32))]) B dX5_digestOfEdges_37 4 rfl (by decide) (by decide) [1, 2, 3, 4, 0] rfl ?_
  refine g_goto (tgt := 15) B dX5_digestOfEdges_40 (by decide) ?_
  refine g_iload B dX5_digestOfEdges_15 4 rfl ?_
  refine g_iconst (v := (2 : Int32)) B dX5_digestOfEdges_17 (by decide) ?_
  refine g_icmp_gt (tgt := 43) B dX5_digestOfEdges_18 (by decide) (fun c158 => absurd c158 (by decide)) (fun _ => ?_)
  refine g_lload_n B dX5_digestOfEdges_21 2 rfl ?_
  refine g_ldc2 (v := (31 : Int64)) B dX5_digestOfEdges_22 (List.mem_of_getElem? (i := 1) rfl) ?_
  refine g_lmul (v := (-3396086840094077747 : Int64)) B dX5_digestOfEdges_25 (by decide) ?_
  refine g_aload_n B dX5_digestOfEdges_26 0 rfl ?_
  refine g_iload B dX5_digestOfEdges_27 3 rfl ?_
  refine g_iload B dX5_digestOfEdges_29 4 rfl ?_
  refine g_callP (g_runV (q0 := 0) (ci := 5) B hK rfl rfl (PM.met (k_ofEdge_v2 l (D := D) (cI := cI) (cL := cL) (cZ := cZ) hb hp ht hg ha hq a0 a1 a2 a3 19 (by omega))) (gPp.pre (av := [.ref hb, .int (19 : Int32), .int (2 : Int32)]) (wc := [(hb, .inr (5, [.ref hp, .ref ht, .ref hg, .ref ha, .ref hq])), (ha, .inr (0, [.ref a0, .ref a1, .ref a2, .ref a3, .int (0 : Int32), .long (0 : Int64)]))]) hK hN [0, 1] rfl (by decide)) gX5_digestOfEdges_X5_ofEdge rfl rfl kd_X5_ofEdge ⟨by decide, by decide⟩ (st := [.long (-3396086840094077747 : Int64)]) rfl (Nat.le_of_ble_eq_true rfl) dX5_digestOfEdges_31 ⟨by decide, by decide⟩) (fun u hu => ?_)
  refine g_i2l (v := (-1 : Int64)) B dX5_digestOfEdges_34 (by decide) ?_
  refine g_ladd (v := (-3396086840094077748 : Int64)) B dX5_digestOfEdges_35 (by decide) ?_
  refine g_lstore_n (lv' := [(0, .ref hb), (1, .long (4895594554911372 : Int64)), (3, .long (-3396086840094077748 : Int64)), (5, .int (19 : Int32)), (6, .int (2 : Int32))]) B dX5_digestOfEdges_36 rfl (by decide) [1, 2, 0, 3, 4] rfl ?_
  refine g_iinc (lv' := [(0, .ref hb), (1, .long (4895594554911372 : Int64)), (3, .long (-3396086840094077748 : Int64)), (5, .int (19 : Int32)), (6, .int (3 : Int32))]) B dX5_digestOfEdges_37 4 rfl (by decide) (by decide) [1, 2, 3, 4, 0] rfl ?_
  refine g_goto (tgt := 15) B dX5_digestOfEdges_40 (by decide) ?_
  refine g_iload B dX5_digestOfEdges_15 4 rfl ?_
  refine g_iconst (v := (2 : Int32)) B dX5_digestOfEdges_17 (by decide) ?_
  refine g_icmp_gt (tgt := 43) B dX5_digestOfEdges_18 (by decide) (fun _ => ?_) (fun c160 => absurd (by decide) c160)
  refine g_iinc (lv' := [(0, .ref hb), (1, .long (4895594554911372 : Int64)), (3, .long (-3396086840094077748 : Int64)), (5, .int (20 : Int32)), (6, .int (3 : Int32))]) B dX5_digestOfEdges_43 3 rfl (by decide) (by decide) [1, 2, 3, 0, 4] rfl ?_
  refine g_goto (tgt := 5) B dX5_digestOfEdges_46 (by decide) ?_
  refine g_iload B dX5_digestOfEdges_5 3 rfl ?_
  refine g_bipush (v := (24 : Int32)) B dX5_digestOfEdges_7 (by decide) ?_
  refine g_icmp_ge (tgt := 49) B dX5_digestOfEdges_9 (by decide) (fun c161 => absurd c161 (by decide)) (fun _ => ?_)
  refine g_iconst (v := (0 : Int32)) B dX5_digestOfEdges_12 (by decide) ?_
  refine g_istore (lv' := [(0, .ref hb), (1, .long (4895594554911372 : Int64)), (3, .long (-3396086840094077748 : Int64)), (5, .int (20 : Int32)), (6, .int (0 : Int32))]) B dX5_digestOfEdges_13 (by decide) [1, 2, 3, 4, 0] rfl ?_
  refine g_iload B dX5_digestOfEdges_15 4 rfl ?_
  refine g_iconst (v := (2 : Int32)) B dX5_digestOfEdges_17 (by decide) ?_
  refine g_icmp_gt (tgt := 43) B dX5_digestOfEdges_18 (by decide) (fun c162 => absurd c162 (by decide)) (fun _ => ?_)
  refine g_lload_n B dX5_digestOfEdges_21 2 rfl ?_
  refine g_ldc2 (v := (31 : Int64)) B dX5_digestOfEdges_22 (List.mem_of_getElem? (i := 1) rfl) ?_
  refine g_lmul (v := (5401772399340899508 : Int64)) B dX5_digestOfEdges_25 (by decide) ?_
  refine g_aload_n B dX5_digestOfEdges_26 0 rfl ?_
  refine g_iload B dX5_digestOfEdges_27 3 rfl ?_
  refine g_iload B dX5_digestOfEdges_29 4 rfl ?_
  refine g_callP (g_runV (q0 := 0) (ci := 5) B hK rfl rfl (PM.met (k_ofEdge_v0 l (D := D) (cI := cI) (cL := cL) (cZ := cZ) hb hp ht hg ha hq a0 a1 a2 a3 20 (by omega))) (gPp.pre (av := [.ref hb, .int (20 : Int32), .int (0 : Int32)]) (wc := [(hb, .inr (5, [.ref hp, .ref ht, .ref hg, .ref ha, .ref hq])), (ha, .inr (0, [.ref a0, .ref a1, .ref a2, .ref a3, .int (0 : Int32), .long (0 : Int64)]))]) hK hN [0, 1] rfl (by decide)) gX5_digestOfEdges_X5_ofEdge rfl rfl kd_X5_ofEdge ⟨by decide, by decide⟩ (st := [.long (5401772399340899508 : Int64)]) rfl (Nat.le_of_ble_eq_true rfl) dX5_digestOfEdges_31 ⟨by decide, by decide⟩) (fun u hu => ?_)
  refine g_i2l (v := (0 : Int64)) B dX5_digestOfEdges_34 (by decide) ?_
  refine g_ladd (v := (5401772399340899508 : Int64)) B dX5_digestOfEdges_35 (by decide) ?_
  refine g_lstore_n (lv' := [(0, .ref hb), (1, .long (4895594554911372 : Int64)), (3, .long (5401772399340899508 : Int64)), (5, .int (20 : Int32)), (6, .int (0 : Int32))]) B dX5_digestOfEdges_36 rfl (by decide) [1, 2, 0, 3, 4] rfl ?_
  refine g_iinc (lv' := [(0, .ref hb), (1, .long (4895594554911372 : Int64)), (3, .long (5401772399340899508 : Int64)), (5, .int (20 : Int32)), (6, .int (1 : Int32))]) B dX5_digestOfEdges_37 4 rfl (by decide) (by decide) [1, 2, 3, 4, 0] rfl ?_
  refine g_goto (tgt := 15) B dX5_digestOfEdges_40 (by decide) ?_
  refine g_iload B dX5_digestOfEdges_15 4 rfl ?_
  refine g_iconst (v := (2 : Int32)) B dX5_digestOfEdges_17 (by decide) ?_
  refine g_icmp_gt (tgt := 43) B dX5_digestOfEdges_18 (by decide) (fun c164 => absurd c164 (by decide)) (fun _ => ?_)
  refine g_lload_n B dX5_digestOfEdges_21 2 rfl ?_
  refine g_ldc2 (v := (31 : Int64)) B dX5_digestOfEdges_22 (List.mem_of_getElem? (i := 1) rfl) ?_
  refine g_lmul (v := (1434247716181920204 : Int64)) B dX5_digestOfEdges_25 (by decide) ?_
  refine g_aload_n B dX5_digestOfEdges_26 0 rfl ?_
  refine g_iload B dX5_digestOfEdges_27 3 rfl ?_
  refine g_iload B dX5_digestOfEdges_29 4 rfl ?_
  refine g_callP (g_runV (q0 := 0) (ci := 5) B hK rfl rfl (PM.met (k_ofEdge_v1 l (D := D) (cI := cI) (cL := cL) (cZ := cZ) hb hp ht hg ha hq a0 a1 a2 a3 20 (by omega))) (gPp.pre (av := [.ref hb, .int (20 : Int32), .int (1 : Int32)]) (wc := [(hb, .inr (5, [.ref hp, .ref ht, .ref hg, .ref ha, .ref hq])), (ha, .inr (0, [.ref a0, .ref a1, .ref a2, .ref a3, .int (0 : Int32), .long (0 : Int64)]))]) hK hN [0, 1] rfl (by decide)) gX5_digestOfEdges_X5_ofEdge rfl rfl kd_X5_ofEdge ⟨by decide, by decide⟩ (st := [.long (1434247716181920204 : Int64)]) rfl (Nat.le_of_ble_eq_true rfl) dX5_digestOfEdges_31 ⟨by decide, by decide⟩) (fun u hu => ?_)
  refine g_i2l (v := (0 : Int64)) B dX5_digestOfEdges_34 (by decide) ?_
  refine g_ladd (v := (1434247716181920204 : Int64)) B dX5_digestOfEdges_35 (by decide) ?_
  refine g_lstore_n (lv' := [(0, .ref hb), (1, .long (4895594554911372 : Int64)), (3, .long (1434247716181920204 : Int64)), (5, .int (20 : Int32)), (6, .int (1 : Int32))]) B dX5_digestOfEdges_36 rfl (by decide) [1, 2, 0, 3, 4] rfl ?_
  refine g_iinc (lv' := [(0, .ref hb), (1, .long (4895594554911372 : Int64)), (3, .long (1434247716181920204 : Int64)), (5, .int (20 : Int32)), (6, .int (2 : Int32))]) B dX5_digestOfEdges_37 4 rfl (by decide) (by decide) [1, 2, 3, 4, 0] rfl ?_
  refine g_goto (tgt := 15) B dX5_digestOfEdges_40 (by decide) ?_
  refine g_iload B dX5_digestOfEdges_15 4 rfl ?_
  refine g_iconst (v := (2 : Int32)) B dX5_digestOfEdges_17 (by decide) ?_
  refine g_icmp_gt (tgt := 43) B dX5_digestOfEdges_18 (by decide) (fun c166 => absurd c166 (by decide)) (fun _ => ?_)
  refine g_lload_n B dX5_digestOfEdges_21 2 rfl ?_
  refine g_ldc2 (v := (31 : Int64)) B dX5_digestOfEdges_22 (List.mem_of_getElem? (i := 1) rfl) ?_
  refine g_lmul (v := (7568191054220423092 : Int64)) B dX5_digestOfEdges_25 (by decide) ?_
  refine g_aload_n B dX5_digestOfEdges_26 0 rfl ?_
  refine g_iload B dX5_digestOfEdges_27 3 rfl ?_
  refine g_iload B dX5_digestOfEdges_29 4 rfl ?_
  refine g_callP (g_runV (q0 := 0) (ci := 5) B hK rfl rfl (PM.met (k_ofEdge_v2 l (D := D) (cI := cI) (cL := cL) (cZ := cZ) hb hp ht hg ha hq a0 a1 a2 a3 20 (by omega))) (gPp.pre (av := [.ref hb, .int (20 : Int32), .int (2 : Int32)]) (wc := [(hb, .inr (5, [.ref hp, .ref ht, .ref hg, .ref ha, .ref hq])), (ha, .inr (0, [.ref a0, .ref a1, .ref a2, .ref a3, .int (0 : Int32), .long (0 : Int64)]))]) hK hN [0, 1] rfl (by decide)) gX5_digestOfEdges_X5_ofEdge rfl rfl kd_X5_ofEdge ⟨by decide, by decide⟩ (st := [.long (7568191054220423092 : Int64)]) rfl (Nat.le_of_ble_eq_true rfl) dX5_digestOfEdges_31 ⟨by decide, by decide⟩) (fun u hu => ?_)
  refine g_i2l (v := (-1 : Int64)) B dX5_digestOfEdges_34 (by decide) ?_
  refine g_ladd (v := (7568191054220423091 : Int64)) B dX5_digestOfEdges_35 (by decide) ?_
  refine g_lstore_n (lv' := [(0, .ref hb), (1, .long (4895594554911372 : Int64)), (3, .long (7568191054220423091 : Int64)), (5, .int (20 : Int32)), (6, .int (2 : Int32))]) B dX5_digestOfEdges_36 rfl (by decide) [1, 2, 0, 3, 4] rfl ?_
  refine g_iinc (lv' := [(0, .ref hb), (1, .long (4895594554911372 : Int64)), (3, .long (7568191054220423091 : Int64)), (5, .int (20 : Int32)), (6, .int (3 : Int32))]) B dX5_digestOfEdges_37 4 rfl (by decide) (by decide) [1, 2, 3, 4, 0] rfl ?_
  refine g_goto (tgt := 15) B dX5_digestOfEdges_40 (by decide) ?_
  refine g_iload B dX5_digestOfEdges_15 4 rfl ?_
  refine g_iconst (v := (2 : Int32)) B dX5_digestOfEdges_17 (by decide) ?_
  refine g_icmp_gt (tgt := 43) B dX5_digestOfEdges_18 (by decide) (fun _ => ?_) (fun c168 => absurd (by decide) c168)
  refine g_iinc (lv' := [(0, .ref hb), (1, .long (4895594554911372 : Int64)), (3, .long (7568191054220423091 : Int64)), (5, .int (21 : Int32)), (6, .int (3 : Int32))]) B dX5_digestOfEdges_43 3 rfl (by decide) (by decide) [1, 2, 3, 0, 4] rfl ?_
  refine g_goto (tgt := 5) B dX5_digestOfEdges_46 (by decide) ?_
  refine g_iload B dX5_digestOfEdges_5 3 rfl ?_
  refine g_bipush (v := (24 : Int32)) B dX5_digestOfEdges_7 (by decide) ?_
  refine g_icmp_ge (tgt := 49) B dX5_digestOfEdges_9 (by decide) (fun c169 => absurd c169 (by decide)) (fun _ => ?_)
  refine g_iconst (v := (0 : Int32)) B dX5_digestOfEdges_12 (by decide) ?_
  refine g_istore (lv' := [(0, .ref hb), (1, .long (4895594554911372 : Int64)), (3, .long (7568191054220423091 : Int64)), (5, .int (21 : Int32)), (6, .int (0 : Int32))]) B dX5_digestOfEdges_13 (by decide) [1, 2, 3, 4, 0] rfl ?_
  refine g_iload B dX5_digestOfEdges_15 4 rfl ?_
  refine g_iconst (v := (2 : Int32)) B dX5_digestOfEdges_17 (by decide) ?_
  refine g_icmp_gt (tgt := 43) B dX5_digestOfEdges_18 (by decide) (fun c170 => absurd c170 (by decide)) (fun _ => ?_)
  refine g_lload_n B dX5_digestOfEdges_21 2 rfl ?_
  refine g_ldc2 (v := (31 : Int64)) B dX5_digestOfEdges_22 (List.mem_of_getElem? (i := 1) rfl) ?_
  refine g_lmul (v := (-5193750277391055187 : Int64)) B dX5_digestOfEdges_25 (by decide) ?_
  refine g_aload_n B dX5_digestOfEdges_26 0 rfl ?_
  refine g_iload B dX5_digestOfEdges_27 3 rfl ?_
  refine g_iload B dX5_digestOfEdges_29 4 rfl ?_
  refine g_callP (g_runV (q0 := 0) (ci := 5) B hK rfl rfl (PM.met (k_ofEdge_v0 l (D := D) (cI := cI) (cL := cL) (cZ := cZ) hb hp ht hg ha hq a0 a1 a2 a3 21 (by omega))) (gPp.pre (av := [.ref hb, .int (21 : Int32), .int (0 : Int32)]) (wc := [(hb, .inr (5, [.ref hp, .ref ht, .ref hg, .ref ha, .ref hq])), (ha, .inr (0, [.ref a0, .ref a1, .ref a2, .ref a3, .int (0 : Int32), .long (0 : Int64)]))]) hK hN [0, 1] rfl (by decide)) gX5_digestOfEdges_X5_ofEdge rfl rfl kd_X5_ofEdge ⟨by decide, by decide⟩ (st := [.long (-5193750277391055187 : Int64)]) rfl (Nat.le_of_ble_eq_true rfl) dX5_digestOfEdges_31 ⟨by decide, by decide⟩) (fun u hu => ?_)
  refine g_i2l (v := (0 : Int64)) B dX5_digestOfEdges_34 (by decide) ?_
  refine g_ladd (v := (-5193750277391055187 : Int64)) B dX5_digestOfEdges_35 (by decide) ?_
  refine g_lstore_n (lv' := [(0, .ref hb), (1, .long (4895594554911372 : Int64)), (3, .long (-5193750277391055187 : Int64)), (5, .int (21 : Int32)), (6, .int (0 : Int32))]) B dX5_digestOfEdges_36 rfl (by decide) [1, 2, 0, 3, 4] rfl ?_
  refine g_iinc (lv' := [(0, .ref hb), (1, .long (4895594554911372 : Int64)), (3, .long (-5193750277391055187 : Int64)), (5, .int (21 : Int32)), (6, .int (1 : Int32))]) B dX5_digestOfEdges_37 4 rfl (by decide) (by decide) [1, 2, 3, 4, 0] rfl ?_
  refine g_goto (tgt := 15) B dX5_digestOfEdges_40 (by decide) ?_
  refine g_iload B dX5_digestOfEdges_15 4 rfl ?_
  refine g_iconst (v := (2 : Int32)) B dX5_digestOfEdges_17 (by decide) ?_
  refine g_icmp_gt (tgt := 43) B dX5_digestOfEdges_18 (by decide) (fun c172 => absurd c172 (by decide)) (fun _ => ?_)
  refine g_lload_n B dX5_digestOfEdges_21 2 rfl ?_
  refine g_ldc2 (v := (31 : Int64)) B dX5_digestOfEdges_22 (List.mem_of_getElem? (i := 1) rfl) ?_
  refine g_lmul (v := (5014438064263253747 : Int64)) B dX5_digestOfEdges_25 (by decide) ?_
  refine g_aload_n B dX5_digestOfEdges_26 0 rfl ?_
  refine g_iload B dX5_digestOfEdges_27 3 rfl ?_
  refine g_iload B dX5_digestOfEdges_29 4 rfl ?_
  refine g_callP (g_runV (q0 := 0) (ci := 5) B hK rfl rfl (PM.met (k_ofEdge_v1 l (D := D) (cI := cI) (cL := cL) (cZ := cZ) hb hp ht hg ha hq a0 a1 a2 a3 21 (by omega))) (gPp.pre (av := [.ref hb, .int (21 : Int32), .int (1 : Int32)]) (wc := [(hb, .inr (5, [.ref hp, .ref ht, .ref hg, .ref ha, .ref hq])), (ha, .inr (0, [.ref a0, .ref a1, .ref a2, .ref a3, .int (0 : Int32), .long (0 : Int64)]))]) hK hN [0, 1] rfl (by decide)) gX5_digestOfEdges_X5_ofEdge rfl rfl kd_X5_ofEdge ⟨by decide, by decide⟩ (st := [.long (5014438064263253747 : Int64)]) rfl (Nat.le_of_ble_eq_true rfl) dX5_digestOfEdges_31 ⟨by decide, by decide⟩) (fun u hu => ?_)
  refine g_i2l (v := (0 : Int64)) B dX5_digestOfEdges_34 (by decide) ?_
  refine g_ladd (v := (5014438064263253747 : Int64)) B dX5_digestOfEdges_35 (by decide) ?_
  refine g_lstore_n (lv' := [(0, .ref hb), (1, .long (4895594554911372 : Int64)), (3, .long (5014438064263253747 : Int64)), (5, .int (21 : Int32)), (6, .int (1 : Int32))]) B dX5_digestOfEdges_36 rfl (by decide) [1, 2, 0, 3, 4] rfl ?_
  refine g_iinc (lv' := [(0, .ref hb), (1, .long (4895594554911372 : Int64)), (3, .long (5014438064263253747 : Int64)), (5, .int (21 : Int32)), (6, .int (2 : Int32))]) B dX5_digestOfEdges_37 4 rfl (by decide) (by decide) [1, 2, 3, 4, 0] rfl ?_
  refine g_goto (tgt := 15) B dX5_digestOfEdges_40 (by decide) ?_
  refine g_iload B dX5_digestOfEdges_15 4 rfl ?_
  refine g_iconst (v := (2 : Int32)) B dX5_digestOfEdges_17 (by decide) ?_
  refine g_icmp_gt (tgt := 43) B dX5_digestOfEdges_18 (by decide) (fun c174 => absurd c174 (by decide)) (fun _ => ?_)
  refine g_lload_n B dX5_digestOfEdges_21 2 rfl ?_
  refine g_ldc2 (v := (31 : Int64)) B dX5_digestOfEdges_22 (List.mem_of_getElem? (i := 1) rfl) ?_
  refine g_lmul (v := (7873627402484453229 : Int64)) B dX5_digestOfEdges_25 (by decide) ?_
  refine g_aload_n B dX5_digestOfEdges_26 0 rfl ?_
  refine g_iload B dX5_digestOfEdges_27 3 rfl ?_
  refine g_iload B dX5_digestOfEdges_29 4 rfl ?_
  refine g_callP (g_runV (q0 := 0) (ci := 5) B hK rfl rfl (PM.met (k_ofEdge_v2 l (D := D) (cI := cI) (cL := cL) (cZ := cZ) hb hp ht hg ha hq a0 a1 a2 a3 21 (by omega))) (gPp.pre (av := [.ref hb, .int (21 : Int32), .int (2 : Int32)]) (wc := [(hb, .inr (5, [.ref hp, .ref ht, .ref hg, .ref ha, .ref hq])), (ha, .inr (0, [.ref a0, .ref a1, .ref a2, .ref a3, .int (0 : Int32), .long (0 : Int64)]))]) hK hN [0, 1] rfl (by decide)) gX5_digestOfEdges_X5_ofEdge rfl rfl kd_X5_ofEdge ⟨by decide, by decide⟩ (st := [.long (7873627402484453229 : Int64)]) rfl (Nat.le_of_ble_eq_true rfl) dX5_digestOfEdges_31 ⟨by decide, by decide⟩) (fun u hu => ?_)
  refine g_i2l (v := (-1 : Int64)) B dX5_digestOfEdges_34 (by decide) ?_
  refine g_ladd (v := (7873627402484453228 : Int64)) B dX5_digestOfEdges_35 (by decide) ?_
  refine g_lstore_n (lv' := [(0, .ref hb), (1, .long (4895594554911372 : Int64)), (3, .long (7873627402484453228 : Int64)), (5, .int (21 : Int32)), (6, .int (2 : Int32))]) B dX5_digestOfEdges_36 rfl (by decide) [1, 2, 0, 3, 4] rfl ?_
  refine g_iinc (lv' := [(0, .ref hb), (1, .long (4895594554911372 : Int64)), (3, .long (7873627402484453228 : Int64)), (5, .int (21 : Int32)), (6, .int (3 : Int32))]) B dX5_digestOfEdges_37 4 rfl (by decide) (by decide) [1, 2, 3, 4, 0] rfl ?_
  refine g_goto (tgt := 15) B dX5_digestOfEdges_40 (by decide) ?_
  refine g_iload B dX5_digestOfEdges_15 4 rfl ?_
  refine g_iconst (v := (2 : Int32)) B dX5_digestOfEdges_17 (by decide) ?_
  refine g_icmp_gt (tgt := 43) B dX5_digestOfEdges_18 (by decide) (fun _ => ?_) (fun c176 => absurd (by decide) c176)
  refine g_iinc (lv' := [(0, .ref hb), (1, .long (4895594554911372 : Int64)), (3, .long (7873627402484453228 : Int64)), (5, .int (22 : Int32)), (6, .int (3 : Int32))]) B dX5_digestOfEdges_43 3 rfl (by decide) (by decide) [1, 2, 3, 0, 4] rfl ?_
  refine g_goto (tgt := 5) B dX5_digestOfEdges_46 (by decide) ?_
  refine g_iload B dX5_digestOfEdges_5 3 rfl ?_
  refine g_bipush (v := (24 : Int32)) B dX5_digestOfEdges_7 (by decide) ?_
  refine g_icmp_ge (tgt := 49) B dX5_digestOfEdges_9 (by decide) (fun c177 => absurd c177 (by decide)) (fun _ => ?_)
  refine g_iconst (v := (0 : Int32)) B dX5_digestOfEdges_12 (by decide) ?_
  refine g_istore (lv' := [(0, .ref hb), (1, .long (4895594554911372 : Int64)), (3, .long (7873627402484453228 : Int64)), (5, .int (22 : Int32)), (6, .int (0 : Int32))]) B dX5_digestOfEdges_13 (by decide) [1, 2, 3, 4, 0] rfl ?_
  refine g_iload B dX5_digestOfEdges_15 4 rfl ?_
  refine g_iconst (v := (2 : Int32)) B dX5_digestOfEdges_17 (by decide) ?_
  refine g_icmp_gt (tgt := 43) B dX5_digestOfEdges_18 (by decide) (fun c178 => absurd c178 (by decide)) (fun _ => ?_)
  refine g_lload_n B dX5_digestOfEdges_21 2 rfl ?_
  refine g_ldc2 (v := (31 : Int64)) B dX5_digestOfEdges_22 (List.mem_of_getElem? (i := 1) rfl) ?_
  refine g_lmul (v := (4274776518793879060 : Int64)) B dX5_digestOfEdges_25 (by decide) ?_
  refine g_aload_n B dX5_digestOfEdges_26 0 rfl ?_
  refine g_iload B dX5_digestOfEdges_27 3 rfl ?_
  refine g_iload B dX5_digestOfEdges_29 4 rfl ?_
  refine g_callP (g_runV (q0 := 0) (ci := 5) B hK rfl rfl (PM.met (k_ofEdge_v0 l (D := D) (cI := cI) (cL := cL) (cZ := cZ) hb hp ht hg ha hq a0 a1 a2 a3 22 (by omega))) (gPp.pre (av := [.ref hb, .int (22 : Int32), .int (0 : Int32)]) (wc := [(hb, .inr (5, [.ref hp, .ref ht, .ref hg, .ref ha, .ref hq])), (ha, .inr (0, [.ref a0, .ref a1, .ref a2, .ref a3, .int (0 : Int32), .long (0 : Int64)]))]) hK hN [0, 1] rfl (by decide)) gX5_digestOfEdges_X5_ofEdge rfl rfl kd_X5_ofEdge ⟨by decide, by decide⟩ (st := [.long (4274776518793879060 : Int64)]) rfl (Nat.le_of_ble_eq_true rfl) dX5_digestOfEdges_31 ⟨by decide, by decide⟩) (fun u hu => ?_)
  refine g_i2l (v := (0 : Int64)) B dX5_digestOfEdges_34 (by decide) ?_
  refine g_ladd (v := (4274776518793879060 : Int64)) B dX5_digestOfEdges_35 (by decide) ?_
  refine g_lstore_n (lv' := [(0, .ref hb), (1, .long (4895594554911372 : Int64)), (3, .long (4274776518793879060 : Int64)), (5, .int (22 : Int32)), (6, .int (0 : Int32))]) B dX5_digestOfEdges_36 rfl (by decide) [1, 2, 0, 3, 4] rfl ?_
  refine g_iinc (lv' := [(0, .ref hb), (1, .long (4895594554911372 : Int64)), (3, .long (4274776518793879060 : Int64)), (5, .int (22 : Int32)), (6, .int (1 : Int32))]) B dX5_digestOfEdges_37 4 rfl (by decide) (by decide) [1, 2, 3, 4, 0] rfl ?_
  refine g_goto (tgt := 15) B dX5_digestOfEdges_40 (by decide) ?_
  refine g_iload B dX5_digestOfEdges_15 4 rfl ?_
  refine g_iconst (v := (2 : Int32)) B dX5_digestOfEdges_17 (by decide) ?_
  refine g_icmp_gt (tgt := 43) B dX5_digestOfEdges_18 (by decide) (fun c180 => absurd c180 (by decide)) (fun _ => ?_)
  refine g_lload_n B dX5_digestOfEdges_21 2 rfl ?_
  refine g_ldc2 (v := (31 : Int64)) B dX5_digestOfEdges_22 (List.mem_of_getElem? (i := 1) rfl) ?_
  refine g_lmul (v := (3390863566643389548 : Int64)) B dX5_digestOfEdges_25 (by decide) ?_
  refine g_aload_n B dX5_digestOfEdges_26 0 rfl ?_
  refine g_iload B dX5_digestOfEdges_27 3 rfl ?_
  refine g_iload B dX5_digestOfEdges_29 4 rfl ?_
  refine g_callP (g_runV (q0 := 0) (ci := 5) B hK rfl rfl (PM.met (k_ofEdge_v1 l (D := D) (cI := cI) (cL := cL) (cZ := cZ) hb hp ht hg ha hq a0 a1 a2 a3 22 (by omega))) (gPp.pre (av := [.ref hb, .int (22 : Int32), .int (1 : Int32)]) (wc := [(hb, .inr (5, [.ref hp, .ref ht, .ref hg, .ref ha, .ref hq])), (ha, .inr (0, [.ref a0, .ref a1, .ref a2, .ref a3, .int (0 : Int32), .long (0 : Int64)]))]) hK hN [0, 1] rfl (by decide)) gX5_digestOfEdges_X5_ofEdge rfl rfl kd_X5_ofEdge ⟨by decide, by decide⟩ (st := [.long (3390863566643389548 : Int64)]) rfl (Nat.le_of_ble_eq_true rfl) dX5_digestOfEdges_31 ⟨by decide, by decide⟩) (fun u hu => ?_)
  refine g_i2l (v := (0 : Int64)) B dX5_digestOfEdges_34 (by decide) ?_
  refine g_ladd (v := (3390863566643389548 : Int64)) B dX5_digestOfEdges_35 (by decide) ?_
  refine g_lstore_n (lv' := [(0, .ref hb), (1, .long (4895594554911372 : Int64)), (3, .long (3390863566643389548 : Int64)), (5, .int (22 : Int32)), (6, .int (1 : Int32))]) B dX5_digestOfEdges_36 rfl (by decide) [1, 2, 0, 3, 4] rfl ?_
  refine g_iinc (lv' := [(0, .ref hb), (1, .long (4895594554911372 : Int64)), (3, .long (3390863566643389548 : Int64)), (5, .int (22 : Int32)), (6, .int (2 : Int32))]) B dX5_digestOfEdges_37 4 rfl (by decide) (by decide) [1, 2, 3, 4, 0] rfl ?_
  refine g_goto (tgt := 15) B dX5_digestOfEdges_40 (by decide) ?_
  refine g_iload B dX5_digestOfEdges_15 4 rfl ?_
  refine g_iconst (v := (2 : Int32)) B dX5_digestOfEdges_17 (by decide) ?_
  refine g_icmp_gt (tgt := 43) B dX5_digestOfEdges_18 (by decide) (fun c182 => absurd c182 (by decide)) (fun _ => ?_)
  refine g_lload_n B dX5_digestOfEdges_21 2 rfl ?_
  refine g_ldc2 (v := (31 : Int64)) B dX5_digestOfEdges_22 (List.mem_of_getElem? (i := 1) rfl) ?_
  refine g_lmul (v := (-5563693876312233708 : Int64)) B dX5_digestOfEdges_25 (by decide) ?_
  refine g_aload_n B dX5_digestOfEdges_26 0 rfl ?_
  refine g_iload B dX5_digestOfEdges_27 3 rfl ?_
  refine g_iload B dX5_digestOfEdges_29 4 rfl ?_
  refine g_callP (g_runV (q0 := 0) (ci := 5) B hK rfl rfl (PM.met (k_ofEdge_v2 l (D := D) (cI := cI) (cL := cL) (cZ := cZ) hb hp ht hg ha hq a0 a1 a2 a3 22 (by omega))) (gPp.pre (av := [.ref hb, .int (22 : Int32), .int (2 : Int32)]) (wc := [(hb, .inr (5, [.ref hp, .ref ht, .ref hg, .ref ha, .ref hq])), (ha, .inr (0, [.ref a0, .ref a1, .ref a2, .ref a3, .int (0 : Int32), .long (0 : Int64)]))]) hK hN [0, 1] rfl (by decide)) gX5_digestOfEdges_X5_ofEdge rfl rfl kd_X5_ofEdge ⟨by decide, by decide⟩ (st := [.long (-5563693876312233708 : Int64)]) rfl (Nat.le_of_ble_eq_true rfl) dX5_digestOfEdges_31 ⟨by decide, by decide⟩) (fun u hu => ?_)
  refine g_i2l (v := (-1 : Int64)) B dX5_digestOfEdges_34 (by decide) ?_
  refine g_ladd (v := (-5563693876312233709 : Int64)) B dX5_digestOfEdges_35 (by decide) ?_
  refine g_lstore_n (lv' := [(0, .ref hb), (1, .long (4895594554911372 : Int64)), (3, .long (-5563693876312233709 : Int64)), (5, .int (22 : Int32)), (6, .int (2 : Int32))]) B dX5_digestOfEdges_36 rfl (by decide) [1, 2, 0, 3, 4] rfl ?_
  refine g_iinc (lv' := [(0, .ref hb), (1, .long (4895594554911372 : Int64)), (3, .long (-5563693876312233709 : Int64)), (5, .int (22 : Int32)), (6, .int (3 : Int32))]) B dX5_digestOfEdges_37 4 rfl (by decide) (by decide) [1, 2, 3, 4, 0] rfl ?_
  refine g_goto (tgt := 15) B dX5_digestOfEdges_40 (by decide) ?_
  refine g_iload B dX5_digestOfEdges_15 4 rfl ?_
  refine g_iconst (v := (2 : Int32)) B dX5_digestOfEdges_17 (by decide) ?_
  refine g_icmp_gt (tgt := 43) B dX5_digestOfEdges_18 (by decide) (fun _ => ?_) (fun c184 => absurd (by decide) c184)
  refine g_iinc (lv' := [(0, .ref hb), (1, .long (4895594554911372 : Int64)), (3, .long (-5563693876312233709 : Int64)), (5, .int (23 : Int32)), (6, .int (3 : Int32))]) B dX5_digestOfEdges_43 3 rfl (by decide) (by decide) [1, 2, 3, 0, 4] rfl ?_
  refine g_goto (tgt := 5) B dX5_digestOfEdges_46 (by decide) ?_
  refine g_iload B dX5_digestOfEdges_5 3 rfl ?_
  refine g_bipush (v := (24 : Int32)) B dX5_digestOfEdges_7 (by decide) ?_
  refine g_icmp_ge (tgt := 49) B dX5_digestOfEdges_9 (by decide) (fun c185 => absurd c185 (by decide)) (fun _ => ?_)
  refine g_iconst (v := (0 : Int32)) B dX5_digestOfEdges_12 (by decide) ?_
  refine g_istore (lv' := [(0, .ref hb), (1, .long (4895594554911372 : Int64)), (3, .long (-5563693876312233709 : Int64)), (5, .int (23 : Int32)), (6, .int (0 : Int32))]) B dX5_digestOfEdges_13 (by decide) [1, 2, 3, 4, 0] rfl ?_
  refine g_iload B dX5_digestOfEdges_15 4 rfl ?_
  refine g_iconst (v := (2 : Int32)) B dX5_digestOfEdges_17 (by decide) ?_
  refine g_icmp_gt (tgt := 43) B dX5_digestOfEdges_18 (by decide) (fun c186 => absurd c186 (by decide)) (fun _ => ?_)
  refine g_lload_n B dX5_digestOfEdges_21 2 rfl ?_
  refine g_ldc2 (v := (31 : Int64)) B dX5_digestOfEdges_22 (List.mem_of_getElem? (i := 1) rfl) ?_
  refine g_lmul (v := (-6453813502293280435 : Int64)) B dX5_digestOfEdges_25 (by decide) ?_
  refine g_aload_n B dX5_digestOfEdges_26 0 rfl ?_
  refine g_iload B dX5_digestOfEdges_27 3 rfl ?_
  refine g_iload B dX5_digestOfEdges_29 4 rfl ?_
  refine g_callP (g_runV (q0 := 0) (ci := 5) B hK rfl rfl (PM.met (k_ofEdge_v0 l (D := D) (cI := cI) (cL := cL) (cZ := cZ) hb hp ht hg ha hq a0 a1 a2 a3 23 (by omega))) (gPp.pre (av := [.ref hb, .int (23 : Int32), .int (0 : Int32)]) (wc := [(hb, .inr (5, [.ref hp, .ref ht, .ref hg, .ref ha, .ref hq])), (ha, .inr (0, [.ref a0, .ref a1, .ref a2, .ref a3, .int (0 : Int32), .long (0 : Int64)]))]) hK hN [0, 1] rfl (by decide)) gX5_digestOfEdges_X5_ofEdge rfl rfl kd_X5_ofEdge ⟨by decide, by decide⟩ (st := [.long (-6453813502293280435 : Int64)]) rfl (Nat.le_of_ble_eq_true rfl) dX5_digestOfEdges_31 ⟨by decide, by decide⟩) (fun u hu => ?_)
  refine g_i2l (v := (0 : Int64)) B dX5_digestOfEdges_34 (by decide) ?_
  refine g_ladd (v := (-6453813502293280435 : Int64)) B dX5_digestOfEdges_35 (by decide) ?_
  refine g_lstore_n (lv' := [(0, .ref hb), (1, .long (4895594554911372 : Int64)), (3, .long (-6453813502293280435 : Int64)), (5, .int (23 : Int32)), (6, .int (0 : Int32))]) B dX5_digestOfEdges_36 rfl (by decide) [1, 2, 0, 3, 4] rfl ?_
  refine g_iinc (lv' := [(0, .ref hb), (1, .long (4895594554911372 : Int64)), (3, .long (-6453813502293280435 : Int64)), (5, .int (23 : Int32)), (6, .int (1 : Int32))]) B dX5_digestOfEdges_37 4 rfl (by decide) (by decide) [1, 2, 3, 4, 0] rfl ?_
  refine g_goto (tgt := 15) B dX5_digestOfEdges_40 (by decide) ?_
  refine g_iload B dX5_digestOfEdges_15 4 rfl ?_
  refine g_iconst (v := (2 : Int32)) B dX5_digestOfEdges_17 (by decide) ?_
  refine g_icmp_gt (tgt := 43) B dX5_digestOfEdges_18 (by decide) (fun c188 => absurd c188 (by decide)) (fun _ => ?_)
  refine g_lload_n B dX5_digestOfEdges_21 2 rfl ?_
  refine g_ldc2 (v := (31 : Int64)) B dX5_digestOfEdges_22 (List.mem_of_getElem? (i := 1) rfl) ?_
  refine g_lmul (v := (2845966239713374291 : Int64)) B dX5_digestOfEdges_25 (by decide) ?_
  refine g_aload_n B dX5_digestOfEdges_26 0 rfl ?_
  refine g_iload B dX5_digestOfEdges_27 3 rfl ?_
  refine g_iload B dX5_digestOfEdges_29 4 rfl ?_
  refine g_callP (g_runV (q0 := 0) (ci := 5) B hK rfl rfl (PM.met (k_ofEdge_v1 l (D := D) (cI := cI) (cL := cL) (cZ := cZ) hb hp ht hg ha hq a0 a1 a2 a3 23 (by omega))) (gPp.pre (av := [.ref hb, .int (23 : Int32), .int (1 : Int32)]) (wc := [(hb, .inr (5, [.ref hp, .ref ht, .ref hg, .ref ha, .ref hq])), (ha, .inr (0, [.ref a0, .ref a1, .ref a2, .ref a3, .int (0 : Int32), .long (0 : Int64)]))]) hK hN [0, 1] rfl (by decide)) gX5_digestOfEdges_X5_ofEdge rfl rfl kd_X5_ofEdge ⟨by decide, by decide⟩ (st := [.long (2845966239713374291 : Int64)]) rfl (Nat.le_of_ble_eq_true rfl) dX5_digestOfEdges_31 ⟨by decide, by decide⟩) (fun u hu => ?_)
  refine g_i2l (v := (0 : Int64)) B dX5_digestOfEdges_34 (by decide) ?_
  refine g_ladd (v := (2845966239713374291 : Int64)) B dX5_digestOfEdges_35 (by decide) ?_
  refine g_lstore_n (lv' := [(0, .ref hb), (1, .long (4895594554911372 : Int64)), (3, .long (2845966239713374291 : Int64)), (5, .int (23 : Int32)), (6, .int (1 : Int32))]) B dX5_digestOfEdges_36 rfl (by decide) [1, 2, 0, 3, 4] rfl ?_
  refine g_iinc (lv' := [(0, .ref hb), (1, .long (4895594554911372 : Int64)), (3, .long (2845966239713374291 : Int64)), (5, .int (23 : Int32)), (6, .int (2 : Int32))]) B dX5_digestOfEdges_37 4 rfl (by decide) (by decide) [1, 2, 3, 4, 0] rfl ?_
  refine g_goto (tgt := 15) B dX5_digestOfEdges_40 (by decide) ?_
  refine g_iload B dX5_digestOfEdges_15 4 rfl ?_
  refine g_iconst (v := (2 : Int32)) B dX5_digestOfEdges_17 (by decide) ?_
  refine g_icmp_gt (tgt := 43) B dX5_digestOfEdges_18 (by decide) (fun c190 => absurd c190 (by decide)) (fun _ => ?_)
  refine g_lload_n B dX5_digestOfEdges_21 2 rfl ?_
  refine g_ldc2 (v := (31 : Int64)) B dX5_digestOfEdges_22 (List.mem_of_getElem? (i := 1) rfl) ?_
  refine g_lmul (v := (-4008766937433155059 : Int64)) B dX5_digestOfEdges_25 (by decide) ?_
  refine g_aload_n B dX5_digestOfEdges_26 0 rfl ?_
  refine g_iload B dX5_digestOfEdges_27 3 rfl ?_
  refine g_iload B dX5_digestOfEdges_29 4 rfl ?_
  refine g_callP (g_runV (q0 := 0) (ci := 5) B hK rfl rfl (PM.met (k_ofEdge_v2 l (D := D) (cI := cI) (cL := cL) (cZ := cZ) hb hp ht hg ha hq a0 a1 a2 a3 23 (by omega))) (gPp.pre (av := [.ref hb, .int (23 : Int32), .int (2 : Int32)]) (wc := [(hb, .inr (5, [.ref hp, .ref ht, .ref hg, .ref ha, .ref hq])), (ha, .inr (0, [.ref a0, .ref a1, .ref a2, .ref a3, .int (0 : Int32), .long (0 : Int64)]))]) hK hN [0, 1] rfl (by decide)) gX5_digestOfEdges_X5_ofEdge rfl rfl kd_X5_ofEdge ⟨by decide, by decide⟩ (st := [.long (-4008766937433155059 : Int64)]) rfl (Nat.le_of_ble_eq_true rfl) dX5_digestOfEdges_31 ⟨by decide, by decide⟩) (fun u hu => ?_)
  refine g_i2l (v := (-1 : Int64)) B dX5_digestOfEdges_34 (by decide) ?_
  refine g_ladd (v := (-4008766937433155060 : Int64)) B dX5_digestOfEdges_35 (by decide) ?_
  refine g_lstore_n (lv' := [(0, .ref hb), (1, .long (4895594554911372 : Int64)), (3, .long (-4008766937433155060 : Int64)), (5, .int (23 : Int32)), (6, .int (2 : Int32))]) B dX5_digestOfEdges_36 rfl (by decide) [1, 2, 0, 3, 4] rfl ?_
  refine g_iinc (lv' := [(0, .ref hb), (1, .long (4895594554911372 : Int64)), (3, .long (-4008766937433155060 : Int64)), (5, .int (23 : Int32)), (6, .int (3 : Int32))]) B dX5_digestOfEdges_37 4 rfl (by decide) (by decide) [1, 2, 3, 4, 0] rfl ?_
  refine g_goto (tgt := 15) B dX5_digestOfEdges_40 (by decide) ?_
  refine g_iload B dX5_digestOfEdges_15 4 rfl ?_
  refine g_iconst (v := (2 : Int32)) B dX5_digestOfEdges_17 (by decide) ?_
  refine g_icmp_gt (tgt := 43) B dX5_digestOfEdges_18 (by decide) (fun _ => ?_) (fun c192 => absurd (by decide) c192)
  refine g_iinc (lv' := [(0, .ref hb), (1, .long (4895594554911372 : Int64)), (3, .long (-4008766937433155060 : Int64)), (5, .int (24 : Int32)), (6, .int (3 : Int32))]) B dX5_digestOfEdges_43 3 rfl (by decide) (by decide) [1, 2, 3, 0, 4] rfl ?_
  refine g_goto (tgt := 5) B dX5_digestOfEdges_46 (by decide) ?_
  refine g_iload B dX5_digestOfEdges_5 3 rfl ?_
  refine g_bipush (v := (24 : Int32)) B dX5_digestOfEdges_7 (by decide) ?_
  refine g_icmp_ge (tgt := 49) B dX5_digestOfEdges_9 (by decide) (fun _ => ?_) (fun c193 => absurd (by decide) c193)
  refine g_lload_n B dX5_digestOfEdges_49 2 rfl ?_
  exact g_lret_p B hr hlocks () (rfl) (trivial) dX5_digestOfEdges_50

set_option maxHeartbeats 4000000 in
set_option maxRecDepth 100000 in
theorem k_digest_v (l : Launch) {D : va_G} {cI cL cZ : ClassId} (hb : Nat) (hp : Nat) (ht : Nat) (hg : Nat) (ha : Nat) (hq : Nat) (p0 : Nat) (p1 : Nat) (p2 : Nat) (p3 : Nat) (p4 : Nat) (t0 : Nat) (fp : Nat → Int32) (ts : Int32) (tr : Int32) (tf : Int64) (g0 : Nat) (g1 : Nat) (g2 : Nat) (a0 : Nat) (a1 : Nat) (a2 : Nat) (a3 : Nat) (fa0 : Nat → Int32) (fa1 : Nat → Int32) (fa3 : Nat → Int64) (r0 : Nat) (r1 : Nat) (r2 : Nat)  : WM l yX5_digest wsX5_digest ({ frames := 5, cells := 0, slots := 0, locals := 118 } : Room) D (gTys cI cL cZ) [.ref hb] [(hb, .inr (5, [.ref hp, .ref ht, .ref hg, .ref ha, .ref hq])), (hp, .inr (2, [.ref p0, .ref p1, .ref p2, .ref p3, .ref p4])), (p0, .inl (cI, 12, .inl (fun _ => (0 : Int32)))), (p1, .inl (cI, 12, .inl (fun _ => (0 : Int32)))), (p2, .inl (cI, 12, .inl (fun _ => (0 : Int32)))), (p3, .inl (cI, 24, .inl (fun _ => (-1 : Int32)))), (p4, .inl (cZ, 12, .inl (fun _ => (0 : Int32)))), (ht, .inr (4, [.ref t0, .int ts, .int tr, .long tf])), (t0, .inl (cI, 30, .inl fp)), (hg, .inr (1, [.ref g0, .ref g1, .ref g2, .int (1 : Int32)])), (g0, .inl (cI, 4, .inl (fun _ => (1 : Int32)))), (g1, .inl (cI, 4, .inl (fun _ => (1 : Int32)))), (g2, .inl (cI, 4, .inl (fun _ => (1 : Int32)))), (ha, .inr (0, [.ref a0, .ref a1, .ref a2, .ref a3, .int (0 : Int32), .long (0 : Int64)])), (a0, .inl (cI, 41, .inl fa0)), (a1, .inl (cI, 41, .inl fa1)), (a3, .inl (cL, 41, .inr (.inl fa3))), (hq, .inr (3, [.ref r0, .ref r1, .ref r2, .int (0 : Int32)]))] (fun (_ : Unit) => True) (fun (_ : Unit) => some (.long (1527246830044034637 : Int64))) (fun (_ : Unit) => []) := by
  refine WM.ofG cX5_digest 4 (some .long) (by decide +kernel) rfl (Nat.le_of_ble_eq_true rfl) ?_
  intro p e s m below meth c A hA B hr hlocks hname hK hN
  refine g_ldc2 (v := (5740 : Int64)) B dX5_digest_0 (List.mem_of_getElem? (i := 1) rfl) ?_
  refine g_lstore_n (lv' := [(0, .ref hb), (1, .long (5740 : Int64))]) B dX5_digest_3 rfl (by decide) [1, 0] rfl ?_
  refine g_iconst (v := (0 : Int32)) B dX5_digest_4 (by decide) ?_
  refine g_istore_n (lv' := [(0, .ref hb), (1, .long (5740 : Int64)), (3, .int (0 : Int32))]) B dX5_digest_5 rfl (by decide) [1, 2, 0] rfl ?_
  refine g_iload_n B dX5_digest_6 2 rfl ?_
  refine g_bipush (v := (7 : Int32)) B dX5_digest_7 (by decide) ?_
  refine g_icmp_gt (tgt := 31) B dX5_digest_9 (by decide) (fun c1 => absurd c1 (by decide)) (fun _ => ?_)
  refine g_lload_n B dX5_digest_12 1 rfl ?_
  refine g_ldc2 (v := (31 : Int64)) B dX5_digest_13 (List.mem_of_getElem? (i := 2) rfl) ?_
  refine g_lmul (v := (177940 : Int64)) B dX5_digest_16 (by decide) ?_
  refine g_aload_n B dX5_digest_17 0 rfl ?_
  refine g_iload_n B dX5_digest_18 2 rfl ?_
  refine g_callP (g_runV (q0 := 0) (ci := 5) B hK rfl rfl (PM.met (k_many_0 l (D := D) (cI := cI) (cL := cL) (cZ := cZ) hb hp ht hg ha hq a0 a1 a2 a3 )) (gPp.pre (av := [.ref hb, .int (0 : Int32)]) (wc := [(hb, .inr (5, [.ref hp, .ref ht, .ref hg, .ref ha, .ref hq])), (ha, .inr (0, [.ref a0, .ref a1, .ref a2, .ref a3, .int (0 : Int32), .long (0 : Int64)]))]) hK hN [0, 13] rfl (by decide)) gX5_digest_X5_many rfl rfl kd_X5_many ⟨by decide, by decide⟩ (st := [.long (177940 : Int64)]) rfl (Nat.le_of_ble_eq_true rfl) dX5_digest_19 ⟨by decide, by decide⟩) (fun u hu => ?_)
  refine g_i2l (v := (0 : Int64)) B dX5_digest_22 (by decide) ?_
  refine g_ladd (v := (177940 : Int64)) B dX5_digest_23 (by decide) ?_
  refine g_lstore_n (lv' := [(0, .ref hb), (1, .long (177940 : Int64)), (3, .int (0 : Int32))]) B dX5_digest_24 rfl (by decide) [1, 0, 2] rfl ?_
  refine g_iinc (lv' := [(0, .ref hb), (1, .long (177940 : Int64)), (3, .int (1 : Int32))]) B dX5_digest_25 2 rfl (by decide) (by decide) [1, 2, 0] rfl ?_
  refine g_goto (tgt := 6) B dX5_digest_28 (by decide) ?_
  refine g_iload_n B dX5_digest_6 2 rfl ?_
  refine g_bipush (v := (7 : Int32)) B dX5_digest_7 (by decide) ?_
  refine g_icmp_gt (tgt := 31) B dX5_digest_9 (by decide) (fun c3 => absurd c3 (by decide)) (fun _ => ?_)
  refine g_lload_n B dX5_digest_12 1 rfl ?_
  refine g_ldc2 (v := (31 : Int64)) B dX5_digest_13 (List.mem_of_getElem? (i := 2) rfl) ?_
  refine g_lmul (v := (5516140 : Int64)) B dX5_digest_16 (by decide) ?_
  refine g_aload_n B dX5_digest_17 0 rfl ?_
  refine g_iload_n B dX5_digest_18 2 rfl ?_
  refine g_callP (g_runV (q0 := 0) (ci := 5) B hK rfl rfl (PM.met (k_many_1 l (D := D) (cI := cI) (cL := cL) (cZ := cZ) hb hp ht hg ha hq a0 a1 a2 a3 )) (gPp.pre (av := [.ref hb, .int (1 : Int32)]) (wc := [(hb, .inr (5, [.ref hp, .ref ht, .ref hg, .ref ha, .ref hq])), (ha, .inr (0, [.ref a0, .ref a1, .ref a2, .ref a3, .int (0 : Int32), .long (0 : Int64)]))]) hK hN [0, 13] rfl (by decide)) gX5_digest_X5_many rfl rfl kd_X5_many ⟨by decide, by decide⟩ (st := [.long (5516140 : Int64)]) rfl (Nat.le_of_ble_eq_true rfl) dX5_digest_19 ⟨by decide, by decide⟩) (fun u hu => ?_)
  refine g_i2l (v := (0 : Int64)) B dX5_digest_22 (by decide) ?_
  refine g_ladd (v := (5516140 : Int64)) B dX5_digest_23 (by decide) ?_
  refine g_lstore_n (lv' := [(0, .ref hb), (1, .long (5516140 : Int64)), (3, .int (1 : Int32))]) B dX5_digest_24 rfl (by decide) [1, 0, 2] rfl ?_
  refine g_iinc (lv' := [(0, .ref hb), (1, .long (5516140 : Int64)), (3, .int (2 : Int32))]) B dX5_digest_25 2 rfl (by decide) (by decide) [1, 2, 0] rfl ?_
  refine g_goto (tgt := 6) B dX5_digest_28 (by decide) ?_
  refine g_iload_n B dX5_digest_6 2 rfl ?_
  refine g_bipush (v := (7 : Int32)) B dX5_digest_7 (by decide) ?_
  refine g_icmp_gt (tgt := 31) B dX5_digest_9 (by decide) (fun c5 => absurd c5 (by decide)) (fun _ => ?_)
  refine g_lload_n B dX5_digest_12 1 rfl ?_
  refine g_ldc2 (v := (31 : Int64)) B dX5_digest_13 (List.mem_of_getElem? (i := 2) rfl) ?_
  refine g_lmul (v := (171000340 : Int64)) B dX5_digest_16 (by decide) ?_
  refine g_aload_n B dX5_digest_17 0 rfl ?_
  refine g_iload_n B dX5_digest_18 2 rfl ?_
  refine g_callP (g_runV (q0 := 0) (ci := 5) B hK rfl rfl (PM.met (k_many_2 l (D := D) (cI := cI) (cL := cL) (cZ := cZ) hb hp ht hg ha hq a0 a1 a2 a3 )) (gPp.pre (av := [.ref hb, .int (2 : Int32)]) (wc := [(hb, .inr (5, [.ref hp, .ref ht, .ref hg, .ref ha, .ref hq])), (ha, .inr (0, [.ref a0, .ref a1, .ref a2, .ref a3, .int (0 : Int32), .long (0 : Int64)]))]) hK hN [0, 13] rfl (by decide)) gX5_digest_X5_many rfl rfl kd_X5_many ⟨by decide, by decide⟩ (st := [.long (171000340 : Int64)]) rfl (Nat.le_of_ble_eq_true rfl) dX5_digest_19 ⟨by decide, by decide⟩) (fun u hu => ?_)
  refine g_i2l (v := (0 : Int64)) B dX5_digest_22 (by decide) ?_
  refine g_ladd (v := (171000340 : Int64)) B dX5_digest_23 (by decide) ?_
  refine g_lstore_n (lv' := [(0, .ref hb), (1, .long (171000340 : Int64)), (3, .int (2 : Int32))]) B dX5_digest_24 rfl (by decide) [1, 0, 2] rfl ?_
  refine g_iinc (lv' := [(0, .ref hb), (1, .long (171000340 : Int64)), (3, .int (3 : Int32))]) B dX5_digest_25 2 rfl (by decide) (by decide) [1, 2, 0] rfl ?_
  refine g_goto (tgt := 6) B dX5_digest_28 (by decide) ?_
  refine g_iload_n B dX5_digest_6 2 rfl ?_
  refine g_bipush (v := (7 : Int32)) B dX5_digest_7 (by decide) ?_
  refine g_icmp_gt (tgt := 31) B dX5_digest_9 (by decide) (fun c7 => absurd c7 (by decide)) (fun _ => ?_)
  refine g_lload_n B dX5_digest_12 1 rfl ?_
  refine g_ldc2 (v := (31 : Int64)) B dX5_digest_13 (List.mem_of_getElem? (i := 2) rfl) ?_
  refine g_lmul (v := (5301010540 : Int64)) B dX5_digest_16 (by decide) ?_
  refine g_aload_n B dX5_digest_17 0 rfl ?_
  refine g_iload_n B dX5_digest_18 2 rfl ?_
  refine g_callP (g_runV (q0 := 0) (ci := 5) B hK rfl rfl (PM.met (k_many_3 l (D := D) (cI := cI) (cL := cL) (cZ := cZ) hb hp ht hg ha hq a0 a1 a2 a3 )) (gPp.pre (av := [.ref hb, .int (3 : Int32)]) (wc := [(hb, .inr (5, [.ref hp, .ref ht, .ref hg, .ref ha, .ref hq])), (ha, .inr (0, [.ref a0, .ref a1, .ref a2, .ref a3, .int (0 : Int32), .long (0 : Int64)]))]) hK hN [0, 13] rfl (by decide)) gX5_digest_X5_many rfl rfl kd_X5_many ⟨by decide, by decide⟩ (st := [.long (5301010540 : Int64)]) rfl (Nat.le_of_ble_eq_true rfl) dX5_digest_19 ⟨by decide, by decide⟩) (fun u hu => ?_)
  refine g_i2l (v := (0 : Int64)) B dX5_digest_22 (by decide) ?_
  refine g_ladd (v := (5301010540 : Int64)) B dX5_digest_23 (by decide) ?_
  refine g_lstore_n (lv' := [(0, .ref hb), (1, .long (5301010540 : Int64)), (3, .int (3 : Int32))]) B dX5_digest_24 rfl (by decide) [1, 0, 2] rfl ?_
  refine g_iinc (lv' := [(0, .ref hb), (1, .long (5301010540 : Int64)), (3, .int (4 : Int32))]) B dX5_digest_25 2 rfl (by decide) (by decide) [1, 2, 0] rfl ?_
  refine g_goto (tgt := 6) B dX5_digest_28 (by decide) ?_
  refine g_iload_n B dX5_digest_6 2 rfl ?_
  refine g_bipush (v := (7 : Int32)) B dX5_digest_7 (by decide) ?_
  refine g_icmp_gt (tgt := 31) B dX5_digest_9 (by decide) (fun c9 => absurd c9 (by decide)) (fun _ => ?_)
  refine g_lload_n B dX5_digest_12 1 rfl ?_
  refine g_ldc2 (v := (31 : Int64)) B dX5_digest_13 (List.mem_of_getElem? (i := 2) rfl) ?_
  refine g_lmul (v := (164331326740 : Int64)) B dX5_digest_16 (by decide) ?_
  refine g_aload_n B dX5_digest_17 0 rfl ?_
  refine g_iload_n B dX5_digest_18 2 rfl ?_
  refine g_callP (g_runV (q0 := 0) (ci := 5) B hK rfl rfl (PM.met (k_many_4 l (D := D) (cI := cI) (cL := cL) (cZ := cZ) hb hp ht hg ha hq a0 a1 a2 a3 )) (gPp.pre (av := [.ref hb, .int (4 : Int32)]) (wc := [(hb, .inr (5, [.ref hp, .ref ht, .ref hg, .ref ha, .ref hq])), (ha, .inr (0, [.ref a0, .ref a1, .ref a2, .ref a3, .int (0 : Int32), .long (0 : Int64)]))]) hK hN [0, 13] rfl (by decide)) gX5_digest_X5_many rfl rfl kd_X5_many ⟨by decide, by decide⟩ (st := [.long (164331326740 : Int64)]) rfl (Nat.le_of_ble_eq_true rfl) dX5_digest_19 ⟨by decide, by decide⟩) (fun u hu => ?_)
  refine g_i2l (v := (0 : Int64)) B dX5_digest_22 (by decide) ?_
  refine g_ladd (v := (164331326740 : Int64)) B dX5_digest_23 (by decide) ?_
  refine g_lstore_n (lv' := [(0, .ref hb), (1, .long (164331326740 : Int64)), (3, .int (4 : Int32))]) B dX5_digest_24 rfl (by decide) [1, 0, 2] rfl ?_
  refine g_iinc (lv' := [(0, .ref hb), (1, .long (164331326740 : Int64)), (3, .int (5 : Int32))]) B dX5_digest_25 2 rfl (by decide) (by decide) [1, 2, 0] rfl ?_
  refine g_goto (tgt := 6) B dX5_digest_28 (by decide) ?_
  refine g_iload_n B dX5_digest_6 2 rfl ?_
  refine g_bipush (v := (7 : Int32)) B dX5_digest_7 (by decide) ?_
  refine g_icmp_gt (tgt := 31) B dX5_digest_9 (by decide) (fun c11 => absurd c11 (by decide)) (fun _ => ?_)
  refine g_lload_n B dX5_digest_12 1 rfl ?_
  refine g_ldc2 (v := (31 : Int64)) B dX5_digest_13 (List.mem_of_getElem? (i := 2) rfl) ?_
  refine g_lmul (v := (5094271128940 : Int64)) B dX5_digest_16 (by decide) ?_
  refine g_aload_n B dX5_digest_17 0 rfl ?_
  refine g_iload_n B dX5_digest_18 2 rfl ?_
  refine g_callP (g_runV (q0 := 0) (ci := 5) B hK rfl rfl (PM.met (k_many_5 l (D := D) (cI := cI) (cL := cL) (cZ := cZ) hb hp ht hg ha hq r0 r1 r2 )) (gPp.pre (av := [.ref hb, .int (5 : Int32)]) (wc := [(hb, .inr (5, [.ref hp, .ref ht, .ref hg, .ref ha, .ref hq])), (hq, .inr (3, [.ref r0, .ref r1, .ref r2, .int (0 : Int32)]))]) hK hN [0, 17] rfl (by decide)) gX5_digest_X5_many rfl rfl kd_X5_many ⟨by decide, by decide⟩ (st := [.long (5094271128940 : Int64)]) rfl (Nat.le_of_ble_eq_true rfl) dX5_digest_19 ⟨by decide, by decide⟩) (fun u hu => ?_)
  refine g_i2l (v := (0 : Int64)) B dX5_digest_22 (by decide) ?_
  refine g_ladd (v := (5094271128940 : Int64)) B dX5_digest_23 (by decide) ?_
  refine g_lstore_n (lv' := [(0, .ref hb), (1, .long (5094271128940 : Int64)), (3, .int (5 : Int32))]) B dX5_digest_24 rfl (by decide) [1, 0, 2] rfl ?_
  refine g_iinc (lv' := [(0, .ref hb), (1, .long (5094271128940 : Int64)), (3, .int (6 : Int32))]) B dX5_digest_25 2 rfl (by decide) (by decide) [1, 2, 0] rfl ?_
  refine g_goto (tgt := 6) B dX5_digest_28 (by decide) ?_
  refine g_iload_n B dX5_digest_6 2 rfl ?_
  refine g_bipush (v := (7 : Int32)) B dX5_digest_7 (by decide) ?_
  refine g_icmp_gt (tgt := 31) B dX5_digest_9 (by decide) (fun c13 => absurd c13 (by decide)) (fun _ => ?_)
  refine g_lload_n B dX5_digest_12 1 rfl ?_
  refine g_ldc2 (v := (31 : Int64)) B dX5_digest_13 (List.mem_of_getElem? (i := 2) rfl) ?_
  refine g_lmul (v := (157922404997140 : Int64)) B dX5_digest_16 (by decide) ?_
  refine g_aload_n B dX5_digest_17 0 rfl ?_
  refine g_iload_n B dX5_digest_18 2 rfl ?_
  refine g_callP (g_runV (q0 := 0) (ci := 5) B hK rfl rfl (PM.met (k_many_6 l (D := D) (cI := cI) (cL := cL) (cZ := cZ) hb hp ht hg ha hq g0 g1 g2 )) (gPp.pre (av := [.ref hb, .int (6 : Int32)]) (wc := [(hb, .inr (5, [.ref hp, .ref ht, .ref hg, .ref ha, .ref hq])), (hg, .inr (1, [.ref g0, .ref g1, .ref g2, .int (1 : Int32)]))]) hK hN [0, 9] rfl (by decide)) gX5_digest_X5_many rfl rfl kd_X5_many ⟨by decide, by decide⟩ (st := [.long (157922404997140 : Int64)]) rfl (Nat.le_of_ble_eq_true rfl) dX5_digest_19 ⟨by decide, by decide⟩) (fun u hu => ?_)
  refine g_i2l (v := (1 : Int64)) B dX5_digest_22 (by decide) ?_
  refine g_ladd (v := (157922404997141 : Int64)) B dX5_digest_23 (by decide) ?_
  refine g_lstore_n (lv' := [(0, .ref hb), (1, .long (157922404997141 : Int64)), (3, .int (6 : Int32))]) B dX5_digest_24 rfl (by decide) [1, 0, 2] rfl ?_
  refine g_iinc (lv' := [(0, .ref hb), (1, .long (157922404997141 : Int64)), (3, .int (7 : Int32))]) B dX5_digest_25 2 rfl (by decide) (by decide) [1, 2, 0] rfl ?_
  refine g_goto (tgt := 6) B dX5_digest_28 (by decide) ?_
  refine g_iload_n B dX5_digest_6 2 rfl ?_
  refine g_bipush (v := (7 : Int32)) B dX5_digest_7 (by decide) ?_
  refine g_icmp_gt (tgt := 31) B dX5_digest_9 (by decide) (fun c15 => absurd c15 (by decide)) (fun _ => ?_)
  refine g_lload_n B dX5_digest_12 1 rfl ?_
  refine g_ldc2 (v := (31 : Int64)) B dX5_digest_13 (List.mem_of_getElem? (i := 2) rfl) ?_
  refine g_lmul (v := (4895594554911371 : Int64)) B dX5_digest_16 (by decide) ?_
  refine g_aload_n B dX5_digest_17 0 rfl ?_
  refine g_iload_n B dX5_digest_18 2 rfl ?_
  refine g_callP (g_runV (q0 := 0) (ci := 5) B hK rfl rfl (PM.met (k_many_7 l (D := D) (cI := cI) (cL := cL) (cZ := cZ) hb hp ht hg ha hq p0 p1 p2 p3 p4 )) (gPp.pre (av := [.ref hb, .int (7 : Int32)]) (wc := [(hb, .inr (5, [.ref hp, .ref ht, .ref hg, .ref ha, .ref hq])), (hp, .inr (2, [.ref p0, .ref p1, .ref p2, .ref p3, .ref p4])), (p3, .inl (cI, 24, .inl (fun _ => (-1 : Int32))))]) hK hN [0, 1, 5] rfl (by decide)) gX5_digest_X5_many rfl rfl kd_X5_many ⟨by decide, by decide⟩ (st := [.long (4895594554911371 : Int64)]) rfl (Nat.le_of_ble_eq_true rfl) dX5_digest_19 ⟨by decide, by decide⟩) (fun u hu => ?_)
  refine g_i2l (v := (1 : Int64)) B dX5_digest_22 (by decide) ?_
  refine g_ladd (v := (4895594554911372 : Int64)) B dX5_digest_23 (by decide) ?_
  refine g_lstore_n (lv' := [(0, .ref hb), (1, .long (4895594554911372 : Int64)), (3, .int (7 : Int32))]) B dX5_digest_24 rfl (by decide) [1, 0, 2] rfl ?_
  refine g_iinc (lv' := [(0, .ref hb), (1, .long (4895594554911372 : Int64)), (3, .int (8 : Int32))]) B dX5_digest_25 2 rfl (by decide) (by decide) [1, 2, 0] rfl ?_
  refine g_goto (tgt := 6) B dX5_digest_28 (by decide) ?_
  refine g_iload_n B dX5_digest_6 2 rfl ?_
  refine g_bipush (v := (7 : Int32)) B dX5_digest_7 (by decide) ?_
  refine g_icmp_gt (tgt := 31) B dX5_digest_9 (by decide) (fun _ => ?_) (fun c17 => absurd (by decide) c17)
  refine g_aload_n B dX5_digest_31 0 rfl ?_
  refine g_lload_n B dX5_digest_32 1 rfl ?_
  refine g_callP (g_runV (q0 := 0) (ci := 5) B hK rfl rfl (PM.met (k_digestOfKnown l (D := D) (cI := cI) (cL := cL) (cZ := cZ) hb hp ht hg ha hq a0 a1 a2 a3 (4895594554911372 : Int64) )) (gPp.pre (av := [.ref hb, .long (4895594554911372 : Int64)]) (wc := [(hb, .inr (5, [.ref hp, .ref ht, .ref hg, .ref ha, .ref hq])), (ha, .inr (0, [.ref a0, .ref a1, .ref a2, .ref a3, .int (0 : Int32), .long (0 : Int64)]))]) hK hN [0, 13] rfl (by decide)) gX5_digest_X5_digestOfKnown rfl rfl kd_X5_digestOfKnown ⟨by decide, by decide⟩ (st := []) rfl (Nat.le_of_ble_eq_true rfl) dX5_digest_33 ⟨by decide, by decide⟩) (fun u hu => ?_)
  refine g_lstore_n (lv' := [(0, .ref hb), (1, .long (4895594554911372 : Int64)), (3, .int (8 : Int32))]) B dX5_digest_36 rfl (by decide) [1, 0, 2] rfl ?_
  refine g_aload_n B dX5_digest_37 0 rfl ?_
  refine g_lload_n B dX5_digest_38 1 rfl ?_
  refine g_callP (g_runV (q0 := 0) (ci := 5) B hK rfl rfl (PM.met (k_digestOfEdges l (D := D) (cI := cI) (cL := cL) (cZ := cZ) hb hp ht hg ha hq a0 a1 a2 a3 )) (gPp.pre (av := [.ref hb, .long (4895594554911372 : Int64)]) (wc := [(hb, .inr (5, [.ref hp, .ref ht, .ref hg, .ref ha, .ref hq])), (ha, .inr (0, [.ref a0, .ref a1, .ref a2, .ref a3, .int (0 : Int32), .long (0 : Int64)]))]) hK hN [0, 13] rfl (by decide)) gX5_digest_X5_digestOfEdges rfl rfl kd_X5_digestOfEdges ⟨by decide, by decide⟩ (st := []) rfl (Nat.le_of_ble_eq_true rfl) dX5_digest_39 ⟨by decide, by decide⟩) (fun u hu => ?_)
  refine g_lstore_n (lv' := [(0, .ref hb), (1, .long (-4008766937433155060 : Int64)), (3, .int (8 : Int32))]) B dX5_digest_42 rfl (by decide) [1, 0, 2] rfl ?_
  refine g_iconst (v := (0 : Int32)) B dX5_digest_43 (by decide) ?_
  refine g_istore_n (lv' := [(0, .ref hb), (1, .long (-4008766937433155060 : Int64)), (3, .int (0 : Int32))]) B dX5_digest_44 rfl (by decide) [1, 2, 0] rfl ?_
  refine g_iload_n B dX5_digest_45 2 rfl ?_
  refine g_aload_n B dX5_digest_46 0 rfl ?_
  refine g_get (C := RX5) (T := TX5) (N := 5) (ci := 5) B hK hin_X5_digest_RX5 0 rfl rfl 4 (by decide) (List.mem_of_getElem? (i := 3) rfl) rfl (v := .ref hq) rfl dX5_digest_47 ?_
  refine g_getN (C := RX3) (T := TX3) (N := 4) (ci := 3) B hK hin_X5_digest_RX3 17 rfl rfl 3 (by decide) hN 8 rfl rfl (v := .int (0 : Int32)) rfl dX5_digest_50 ?_
  refine g_icmp_ge (tgt := 81) B dX5_digest_53 (by decide) (fun _ => ?_) (fun c20 => absurd (by decide) c20)
  refine g_lload_n B dX5_digest_81 1 rfl ?_
  refine g_ldc2 (v := (31 : Int64)) B dX5_digest_82 (List.mem_of_getElem? (i := 2) rfl) ?_
  refine g_lmul (v := (4855433455539054452 : Int64)) B dX5_digest_85 (by decide) ?_
  refine g_aload_n B dX5_digest_86 0 rfl ?_
  refine g_callP (g_runV (q0 := 0) (ci := 5) B hK rfl rfl (PM.met (k_fewest_v l (D := D) (cI := cI) (cL := cL) (cZ := cZ) hb hp ht hg ha hq a0 a1 a2 a3 )) (gPp.pre (av := [.ref hb]) (wc := [(hb, .inr (5, [.ref hp, .ref ht, .ref hg, .ref ha, .ref hq])), (ha, .inr (0, [.ref a0, .ref a1, .ref a2, .ref a3, .int (0 : Int32), .long (0 : Int64)]))]) hK hN [0, 13] rfl (by decide)) gX5_digest_X5_fewest rfl rfl kd_X5_fewest ⟨by decide, by decide⟩ (st := [.long (4855433455539054452 : Int64)]) rfl (Nat.le_of_ble_eq_true rfl) dX5_digest_87 ⟨by decide, by decide⟩) (fun u hu => ?_)
  refine g_i2l (v := (0 : Int64)) B dX5_digest_90 (by decide) ?_
  refine g_ladd (v := (4855433455539054452 : Int64)) B dX5_digest_91 (by decide) ?_
  refine g_lstore_n (lv' := [(0, .ref hb), (1, .long (4855433455539054452 : Int64)), (3, .int (0 : Int32))]) B dX5_digest_92 rfl (by decide) [1, 0, 2] rfl ?_
  refine g_lload_n B dX5_digest_93 1 rfl ?_
  refine g_ldc2 (v := (31 : Int64)) B dX5_digest_94 (List.mem_of_getElem? (i := 2) rfl) ?_
  refine g_lmul (v := (2944484532034275084 : Int64)) B dX5_digest_97 (by decide) ?_
  refine g_aload_n B dX5_digest_98 0 rfl ?_
  refine g_iconst (v := (5 : Int32)) B dX5_digest_99 (by decide) ?_
  refine g_callW (w2 := (fun (z9 : (Nat → Int32) × Int32 × Int32 × Int64) => [(hb, .inr (5, [.ref hp, .ref ht, .ref hg, .ref ha, .ref hq])), (hp, .inr (2, [.ref p0, .ref p1, .ref p2, .ref p3, .ref p4])), (p0, .inl (cI, 12, .inl (fun _ => (0 : Int32)))), (p1, .inl (cI, 12, .inl (fun _ => (0 : Int32)))), (p2, .inl (cI, 12, .inl (fun _ => (0 : Int32)))), (p3, .inl (cI, 24, .inl (fun _ => (-1 : Int32)))), (p4, .inl (cZ, 12, .inl (fun _ => (0 : Int32)))), (ht, .inr (4, [.ref t0, .int z9.2.1, .int z9.2.2.1, .long z9.2.2.2])), (t0, .inl (cI, 30, .inl z9.1)), (hg, .inr (1, [.ref g0, .ref g1, .ref g2, .int (1 : Int32)])), (g0, .inl (cI, 4, .inl (fun _ => (1 : Int32)))), (g1, .inl (cI, 4, .inl (fun _ => (1 : Int32)))), (g2, .inl (cI, 4, .inl (fun _ => (1 : Int32)))), (ha, .inr (0, [.ref a0, .ref a1, .ref a2, .ref a3, .int (0 : Int32), .long (0 : Int64)])), (a0, .inl (cI, 41, .inl fa0)), (a1, .inl (cI, 41, .inl fa1)), (a3, .inl (cL, 41, .inr (.inl fa3))), (hq, .inr (3, [.ref r0, .ref r1, .ref r2, .int (0 : Int32)]))])) (g_runV (q0 := 0) (ci := 5) B hK rfl rfl (k_ahead_v l (D := D) (cI := cI) (cL := cL) (cZ := cZ) hb hp ht hg ha hq p0 p1 p2 p3 p4 t0 fp ts tr tf g0 g1 g2 1 5 (by omega) (by omega) (by omega)) (gPw.pre (av := [.ref hb, .int (5 : Int32)]) (wc := [(hb, .inr (5, [.ref hp, .ref ht, .ref hg, .ref ha, .ref hq])), (hp, .inr (2, [.ref p0, .ref p1, .ref p2, .ref p3, .ref p4])), (p0, .inl (cI, 12, .inl (fun _ => (0 : Int32)))), (p1, .inl (cI, 12, .inl (fun _ => (0 : Int32)))), (p2, .inl (cI, 12, .inl (fun _ => (0 : Int32)))), (p3, .inl (cI, 24, .inl (fun _ => (-1 : Int32)))), (p4, .inl (cZ, 12, .inl (fun _ => (0 : Int32)))), (ht, .inr (4, [.ref t0, .int ts, .int tr, .long tf])), (t0, .inl (cI, 30, .inl fp)), (hg, .inr (1, [.ref g0, .ref g1, .ref g2, .int (1 : Int32)])), (g0, .inl (cI, 4, .inl (fun _ => (1 : Int32)))), (g1, .inl (cI, 4, .inl (fun _ => (1 : Int32)))), (g2, .inl (cI, 4, .inl (fun _ => (1 : Int32))))]) hK hN [0, 1, 2, 3, 4, 5, 6, 7, 8, 9, 10, 11, 12] rfl (by decide)) gX5_digest_X5_ahead rfl rfl kd_X5_ahead ⟨by decide, by decide⟩ (st := [.long (2944484532034275084 : Int64)]) rfl (Nat.le_of_ble_eq_true rfl) dX5_digest_100 ⟨by decide, by decide⟩) hA (fun _ h => h) [0, 1, 2, 3, 4, 5, 6, 7, 8, 9, 10, 11, 12] [13, 14, 15, 16, 17] (wr := [(ha, .inr (0, [.ref a0, .ref a1, .ref a2, .ref a3, .int (0 : Int32), .long (0 : Int64)])), (a0, .inl (cI, 41, .inl fa0)), (a1, .inl (cI, 41, .inl fa1)), (a3, .inl (cL, 41, .inr (.inl fa3))), (hq, .inr (3, [.ref r0, .ref r1, .ref r2, .int (0 : Int32)]))]) rfl rfl (by decide) (by decide) [5, 6, 7, 8, 9, 10, 11, 12, 13, 14, 15, 16, 17, 0, 1, 2, 3, 4] (by decide) (fun _ => rfl) (fun u hu => ?_)
  obtain ⟨fp1_22, ts1_22, tr1_22, tf1_22⟩ := u
  try dsimp only at hu ⊢
  refine g_i2l (v := (1 : Int64)) B dX5_digest_103 (by decide) ?_
  refine g_ladd (v := (2944484532034275085 : Int64)) B dX5_digest_104 (by decide) ?_
  refine g_lstore_n (lv' := [(0, .ref hb), (1, .long (2944484532034275085 : Int64)), (3, .int (0 : Int32))]) B dX5_digest_105 rfl (by decide) [1, 0, 2] rfl ?_
  refine g_iconst (v := (0 : Int32)) B dX5_digest_106 (by decide) ?_
  refine g_istore_n (lv' := [(0, .ref hb), (1, .long (2944484532034275085 : Int64)), (3, .int (0 : Int32))]) B dX5_digest_107 rfl (by decide) [1, 2, 0] rfl ?_
  refine g_iload_n B dX5_digest_108 2 rfl ?_
  refine g_bipush (v := (9 : Int32)) B dX5_digest_109 (by decide) ?_
  refine g_icmp_gt (tgt := 159) B dX5_digest_111 (by decide) (fun c23 => absurd c23 (by decide)) (fun _ => ?_)
  refine g_lload_n B dX5_digest_114 1 rfl ?_
  refine g_ldc2 (v := (31 : Int64)) B dX5_digest_115 (List.mem_of_getElem? (i := 2) rfl) ?_
  refine g_lmul (v := (-954699875485230445 : Int64)) B dX5_digest_118 (by decide) ?_
  refine g_aload_n B dX5_digest_119 0 rfl ?_
  refine g_iload_n B dX5_digest_120 2 rfl ?_
  refine g_callW (w2 := (fun (fp2_24 : Nat → Int32) => [(hb, .inr (5, [.ref hp, .ref ht, .ref hg, .ref ha, .ref hq])), (hp, .inr (2, [.ref p0, .ref p1, .ref p2, .ref p3, .ref p4])), (p0, .inl (cI, 12, .inl (fun _ => (0 : Int32)))), (p1, .inl (cI, 12, .inl (fun _ => (0 : Int32)))), (p2, .inl (cI, 12, .inl (fun _ => (0 : Int32)))), (p3, .inl (cI, 24, .inl (fun _ => (-1 : Int32)))), (p4, .inl (cZ, 12, .inl (fun _ => (0 : Int32)))), (ht, .inr (4, [.ref t0, .int (1 : Int32), .int (1 : Int32), .long (2 : Int64)])), (t0, .inl (cI, 30, .inl fp2_24)), (hg, .inr (1, [.ref g0, .ref g1, .ref g2, .int (1 : Int32)])), (g0, .inl (cI, 4, .inl (fun _ => (1 : Int32)))), (g1, .inl (cI, 4, .inl (fun _ => (1 : Int32)))), (g2, .inl (cI, 4, .inl (fun _ => (1 : Int32)))), (ha, .inr (0, [.ref a0, .ref a1, .ref a2, .ref a3, .int (0 : Int32), .long (0 : Int64)])), (a0, .inl (cI, 41, .inl fa0)), (a1, .inl (cI, 41, .inl fa1)), (a3, .inl (cL, 41, .inr (.inl fa3))), (hq, .inr (3, [.ref r0, .ref r1, .ref r2, .int (0 : Int32)]))])) (g_runV (q0 := 0) (ci := 5) B hK rfl rfl (k_run_v l (D := D) (cI := cI) (cL := cL) (cZ := cZ) hb hp ht hg ha hq p0 p1 p2 p3 p4 t0 fp1_22 ts1_22 tr1_22 tf1_22 0 (by omega)) (gPw.pre (av := [.ref hb, .int (0 : Int32)]) (wc := [(hb, .inr (5, [.ref hp, .ref ht, .ref hg, .ref ha, .ref hq])), (hp, .inr (2, [.ref p0, .ref p1, .ref p2, .ref p3, .ref p4])), (p0, .inl (cI, 12, .inl (fun _ => (0 : Int32)))), (p1, .inl (cI, 12, .inl (fun _ => (0 : Int32)))), (p2, .inl (cI, 12, .inl (fun _ => (0 : Int32)))), (p3, .inl (cI, 24, .inl (fun _ => (-1 : Int32)))), (p4, .inl (cZ, 12, .inl (fun _ => (0 : Int32)))), (ht, .inr (4, [.ref t0, .int ts1_22, .int tr1_22, .long tf1_22])), (t0, .inl (cI, 30, .inl fp1_22))]) hK hN [0, 1, 2, 3, 4, 5, 6, 7, 8] rfl (by decide)) gX5_digest_X5_run rfl rfl kd_X5_run ⟨by decide, by decide⟩ (st := [.long (-954699875485230445 : Int64)]) rfl (Nat.le_of_ble_eq_true rfl) dX5_digest_121 ⟨by decide, by decide⟩) hA (fun _ h => h) [0, 1, 2, 3, 4, 5, 6, 7, 8] [9, 10, 11, 12, 13, 14, 15, 16, 17] (wr := [(hg, .inr (1, [.ref g0, .ref g1, .ref g2, .int (1 : Int32)])), (g0, .inl (cI, 4, .inl (fun _ => (1 : Int32)))), (g1, .inl (cI, 4, .inl (fun _ => (1 : Int32)))), (g2, .inl (cI, 4, .inl (fun _ => (1 : Int32)))), (ha, .inr (0, [.ref a0, .ref a1, .ref a2, .ref a3, .int (0 : Int32), .long (0 : Int64)])), (a0, .inl (cI, 41, .inl fa0)), (a1, .inl (cI, 41, .inl fa1)), (a3, .inl (cL, 41, .inr (.inl fa3))), (hq, .inr (3, [.ref r0, .ref r1, .ref r2, .int (0 : Int32)]))]) rfl rfl (by decide) (by decide) [9, 10, 11, 12, 13, 14, 15, 16, 17, 0, 1, 2, 3, 4, 5, 6, 7, 8] (by decide) (fun _ => rfl) (fun u hu => ?_)
  obtain ⟨fp2_24, e9⟩ : ∃ z, z = u := ⟨_, rfl⟩; subst e9
  try dsimp only at hu ⊢
  refine g_i2l (v := (1 : Int64)) B dX5_digest_124 (by decide) ?_
  refine g_ladd (v := (-954699875485230444 : Int64)) B dX5_digest_125 (by decide) ?_
  refine g_lstore_n (lv' := [(0, .ref hb), (1, .long (-954699875485230444 : Int64)), (3, .int (0 : Int32))]) B dX5_digest_126 rfl (by decide) [1, 0, 2] rfl ?_
  refine g_lload_n B dX5_digest_127 1 rfl ?_
  refine g_ldc2 (v := (31 : Int64)) B dX5_digest_128 (List.mem_of_getElem? (i := 2) rfl) ?_
  refine g_lmul (v := (7297792007376959468 : Int64)) B dX5_digest_131 (by decide) ?_
  refine g_aload_n B dX5_digest_132 0 rfl ?_
  refine g_iload_n B dX5_digest_133 2 rfl ?_
  refine g_callW (w2 := (fun (fp2_25 : Nat → Int32) => [(hb, .inr (5, [.ref hp, .ref ht, .ref hg, .ref ha, .ref hq])), (hp, .inr (2, [.ref p0, .ref p1, .ref p2, .ref p3, .ref p4])), (p0, .inl (cI, 12, .inl (fun _ => (0 : Int32)))), (p1, .inl (cI, 12, .inl (fun _ => (0 : Int32)))), (p2, .inl (cI, 12, .inl (fun _ => (0 : Int32)))), (p3, .inl (cI, 24, .inl (fun _ => (-1 : Int32)))), (p4, .inl (cZ, 12, .inl (fun _ => (0 : Int32)))), (ht, .inr (4, [.ref t0, .int (1 : Int32), .int (1 : Int32), .long (2 : Int64)])), (t0, .inl (cI, 30, .inl fp2_25)), (hg, .inr (1, [.ref g0, .ref g1, .ref g2, .int (1 : Int32)])), (g0, .inl (cI, 4, .inl (fun _ => (1 : Int32)))), (g1, .inl (cI, 4, .inl (fun _ => (1 : Int32)))), (g2, .inl (cI, 4, .inl (fun _ => (1 : Int32)))), (ha, .inr (0, [.ref a0, .ref a1, .ref a2, .ref a3, .int (0 : Int32), .long (0 : Int64)])), (a0, .inl (cI, 41, .inl fa0)), (a1, .inl (cI, 41, .inl fa1)), (a3, .inl (cL, 41, .inr (.inl fa3))), (hq, .inr (3, [.ref r0, .ref r1, .ref r2, .int (0 : Int32)]))])) (g_runV (q0 := 0) (ci := 5) B hK rfl rfl (k_covers_v l (D := D) (cI := cI) (cL := cL) (cZ := cZ) hb hp ht hg ha hq p0 p1 p2 p3 p4 t0 fp2_24 (1 : Int32) (1 : Int32) (2 : Int64) 0 (by omega)) (gPw.pre (av := [.ref hb, .int (0 : Int32)]) (wc := [(hb, .inr (5, [.ref hp, .ref ht, .ref hg, .ref ha, .ref hq])), (hp, .inr (2, [.ref p0, .ref p1, .ref p2, .ref p3, .ref p4])), (p0, .inl (cI, 12, .inl (fun _ => (0 : Int32)))), (p1, .inl (cI, 12, .inl (fun _ => (0 : Int32)))), (p2, .inl (cI, 12, .inl (fun _ => (0 : Int32)))), (p3, .inl (cI, 24, .inl (fun _ => (-1 : Int32)))), (p4, .inl (cZ, 12, .inl (fun _ => (0 : Int32)))), (ht, .inr (4, [.ref t0, .int (1 : Int32), .int (1 : Int32), .long (2 : Int64)])), (t0, .inl (cI, 30, .inl fp2_24))]) hK hN [0, 1, 2, 3, 4, 5, 6, 7, 8] rfl (by decide)) gX5_digest_X5_covers rfl rfl kd_X5_covers ⟨by decide, by decide⟩ (st := [.long (7297792007376959468 : Int64)]) rfl (Nat.le_of_ble_eq_true rfl) dX5_digest_134 ⟨by decide, by decide⟩) hA (fun _ h => h) [0, 1, 2, 3, 4, 5, 6, 7, 8] [9, 10, 11, 12, 13, 14, 15, 16, 17] (wr := [(hg, .inr (1, [.ref g0, .ref g1, .ref g2, .int (1 : Int32)])), (g0, .inl (cI, 4, .inl (fun _ => (1 : Int32)))), (g1, .inl (cI, 4, .inl (fun _ => (1 : Int32)))), (g2, .inl (cI, 4, .inl (fun _ => (1 : Int32)))), (ha, .inr (0, [.ref a0, .ref a1, .ref a2, .ref a3, .int (0 : Int32), .long (0 : Int64)])), (a0, .inl (cI, 41, .inl fa0)), (a1, .inl (cI, 41, .inl fa1)), (a3, .inl (cL, 41, .inr (.inl fa3))), (hq, .inr (3, [.ref r0, .ref r1, .ref r2, .int (0 : Int32)]))]) rfl rfl (by decide) (by decide) [9, 10, 11, 12, 13, 14, 15, 16, 17, 0, 1, 2, 3, 4, 5, 6, 7, 8] (by decide) (fun _ => rfl) (fun u hu => ?_)
  obtain ⟨fp2_25, e9⟩ : ∃ z, z = u := ⟨_, rfl⟩; subst e9
  try dsimp only at hu ⊢
  refine g_i2l (v := (1 : Int64)) B dX5_digest_137 (by decide) ?_
  refine g_ladd (v := (7297792007376959469 : Int64)) B dX5_digest_138 (by decide) ?_
  refine g_lstore_n (lv' := [(0, .ref hb), (1, .long (7297792007376959469 : Int64)), (3, .int (0 : Int32))]) B dX5_digest_139 rfl (by decide) [1, 0, 2] rfl ?_
  refine g_lload_n B dX5_digest_140 1 rfl ?_
  refine g_ldc2 (v := (31 : Int64)) B dX5_digest_141 (List.mem_of_getElem? (i := 2) rfl) ?_
  refine g_lmul (v := (4870623344171124147 : Int64)) B dX5_digest_144 (by decide) ?_
  refine g_aload_n B dX5_digest_145 0 rfl ?_
  refine g_iload_n B dX5_digest_146 2 rfl ?_
  refine g_callW (w2 := (fun (z9 : (Nat → Int32) × (Nat → Int32) × (Nat → Int32) × (Nat → Int64)) => [(hb, .inr (5, [.ref hp, .ref ht, .ref hg, .ref ha, .ref hq])), (hp, .inr (2, [.ref p0, .ref p1, .ref p2, .ref p3, .ref p4])), (p0, .inl (cI, 12, .inl (fun _ => (0 : Int32)))), (p1, .inl (cI, 12, .inl (fun _ => (0 : Int32)))), (p2, .inl (cI, 12, .inl (fun _ => (0 : Int32)))), (p3, .inl (cI, 24, .inl (fun _ => (-1 : Int32)))), (p4, .inl (cZ, 12, .inl (fun _ => (0 : Int32)))), (ht, .inr (4, [.ref t0, .int (1 : Int32), .int (1 : Int32), .long (2 : Int64)])), (t0, .inl (cI, 30, .inl z9.1)), (hg, .inr (1, [.ref g0, .ref g1, .ref g2, .int (1 : Int32)])), (g0, .inl (cI, 4, .inl (fun _ => (1 : Int32)))), (g1, .inl (cI, 4, .inl (fun _ => (1 : Int32)))), (g2, .inl (cI, 4, .inl (fun _ => (1 : Int32)))), (ha, .inr (0, [.ref a0, .ref a1, .ref a2, .ref a3, .int (0 : Int32), .long (0 : Int64)])), (a0, .inl (cI, 41, .inl z9.2.1)), (a1, .inl (cI, 41, .inl z9.2.2.1)), (a3, .inl (cL, 41, .inr (.inl z9.2.2.2))), (hq, .inr (3, [.ref r0, .ref r1, .ref r2, .int (0 : Int32)]))])) (g_runV (q0 := 0) (ci := 5) B hK rfl rfl (k_wouldDrop_v l (D := D) (cI := cI) (cL := cL) (cZ := cZ) hb hp ht hg ha hq p0 p1 p2 p3 p4 t0 fp2_25 (1 : Int32) (1 : Int32) (2 : Int64) a0 a1 a2 a3 fa0 fa1 fa3 0 (by omega)) (gPw.pre (av := [.ref hb, .int (0 : Int32)]) (wc := [(hb, .inr (5, [.ref hp, .ref ht, .ref hg, .ref ha, .ref hq])), (hp, .inr (2, [.ref p0, .ref p1, .ref p2, .ref p3, .ref p4])), (p0, .inl (cI, 12, .inl (fun _ => (0 : Int32)))), (p1, .inl (cI, 12, .inl (fun _ => (0 : Int32)))), (p2, .inl (cI, 12, .inl (fun _ => (0 : Int32)))), (p3, .inl (cI, 24, .inl (fun _ => (-1 : Int32)))), (p4, .inl (cZ, 12, .inl (fun _ => (0 : Int32)))), (ht, .inr (4, [.ref t0, .int (1 : Int32), .int (1 : Int32), .long (2 : Int64)])), (t0, .inl (cI, 30, .inl fp2_25)), (ha, .inr (0, [.ref a0, .ref a1, .ref a2, .ref a3, .int (0 : Int32), .long (0 : Int64)])), (a0, .inl (cI, 41, .inl fa0)), (a1, .inl (cI, 41, .inl fa1)), (a3, .inl (cL, 41, .inr (.inl fa3)))]) hK hN [0, 1, 2, 3, 4, 5, 6, 7, 8, 13, 14, 15, 16] rfl (by decide)) gX5_digest_X5_wouldDrop rfl rfl kd_X5_wouldDrop ⟨by decide, by decide⟩ (st := [.long (4870623344171124147 : Int64)]) rfl (Nat.le_of_ble_eq_true rfl) dX5_digest_147 ⟨by decide, by decide⟩) hA (fun _ h => h) [0, 1, 2, 3, 4, 5, 6, 7, 8, 13, 14, 15, 16] [9, 10, 11, 12, 17] (wr := [(hg, .inr (1, [.ref g0, .ref g1, .ref g2, .int (1 : Int32)])), (g0, .inl (cI, 4, .inl (fun _ => (1 : Int32)))), (g1, .inl (cI, 4, .inl (fun _ => (1 : Int32)))), (g2, .inl (cI, 4, .inl (fun _ => (1 : Int32)))), (hq, .inr (3, [.ref r0, .ref r1, .ref r2, .int (0 : Int32)]))]) rfl rfl (by decide) (by decide) [5, 6, 7, 8, 9, 10, 11, 12, 13, 0, 1, 2, 3, 14, 15, 16, 17, 4] (by decide) (fun _ => rfl) (fun u hu => ?_)
  obtain ⟨fp2_26, fa0b_26, fa1b_26, fa3b_26⟩ := u
  try dsimp only at hu ⊢
  refine g_i2l (v := (0 : Int64)) B dX5_digest_150 (by decide) ?_
  refine g_ladd (v := (4870623344171124147 : Int64)) B dX5_digest_151 (by decide) ?_
  refine g_lstore_n (lv' := [(0, .ref hb), (1, .long (4870623344171124147 : Int64)), (3, .int (0 : Int32))]) B dX5_digest_152 rfl (by decide) [1, 0, 2] rfl ?_
  refine g_iinc (lv' := [(0, .ref hb), (1, .long (4870623344171124147 : Int64)), (3, .int (1 : Int32))]) B dX5_digest_153 2 rfl (by decide) (by decide) [1, 2, 0] rfl ?_
  refine g_goto (tgt := 108) B dX5_digest_156 (by decide) ?_
  refine g_iload_n B dX5_digest_108 2 rfl ?_
  refine g_bipush (v := (9 : Int32)) B dX5_digest_109 (by decide) ?_
  refine g_icmp_gt (tgt := 159) B dX5_digest_111 (by decide) (fun c27 => absurd c27 (by decide)) (fun _ => ?_)
  refine g_lload_n B dX5_digest_114 1 rfl ?_
  refine g_ldc2 (v := (31 : Int64)) B dX5_digest_115 (List.mem_of_getElem? (i := 2) rfl) ?_
  refine g_lmul (v := (3415371079628435629 : Int64)) B dX5_digest_118 (by decide) ?_
  refine g_aload_n B dX5_digest_119 0 rfl ?_
  refine g_iload_n B dX5_digest_120 2 rfl ?_
  refine g_callW (w2 := (fun (fp2_28 : Nat → Int32) => [(hb, .inr (5, [.ref hp, .ref ht, .ref hg, .ref ha, .ref hq])), (hp, .inr (2, [.ref p0, .ref p1, .ref p2, .ref p3, .ref p4])), (p0, .inl (cI, 12, .inl (fun _ => (0 : Int32)))), (p1, .inl (cI, 12, .inl (fun _ => (0 : Int32)))), (p2, .inl (cI, 12, .inl (fun _ => (0 : Int32)))), (p3, .inl (cI, 24, .inl (fun _ => (-1 : Int32)))), (p4, .inl (cZ, 12, .inl (fun _ => (0 : Int32)))), (ht, .inr (4, [.ref t0, .int (1 : Int32), .int (1 : Int32), .long (2 : Int64)])), (t0, .inl (cI, 30, .inl fp2_28)), (hg, .inr (1, [.ref g0, .ref g1, .ref g2, .int (1 : Int32)])), (g0, .inl (cI, 4, .inl (fun _ => (1 : Int32)))), (g1, .inl (cI, 4, .inl (fun _ => (1 : Int32)))), (g2, .inl (cI, 4, .inl (fun _ => (1 : Int32)))), (ha, .inr (0, [.ref a0, .ref a1, .ref a2, .ref a3, .int (0 : Int32), .long (0 : Int64)])), (a0, .inl (cI, 41, .inl fa0b_26)), (a1, .inl (cI, 41, .inl fa1b_26)), (a3, .inl (cL, 41, .inr (.inl fa3b_26))), (hq, .inr (3, [.ref r0, .ref r1, .ref r2, .int (0 : Int32)]))])) (g_runV (q0 := 0) (ci := 5) B hK rfl rfl (k_run_v l (D := D) (cI := cI) (cL := cL) (cZ := cZ) hb hp ht hg ha hq p0 p1 p2 p3 p4 t0 fp2_26 (1 : Int32) (1 : Int32) (2 : Int64) 1 (by omega)) (gPw.pre (av := [.ref hb, .int (1 : Int32)]) (wc := [(hb, .inr (5, [.ref hp, .ref ht, .ref hg, .ref ha, .ref hq])), (hp, .inr (2, [.ref p0, .ref p1, .ref p2, .ref p3, .ref p4])), (p0, .inl (cI, 12, .inl (fun _ => (0 : Int32)))), (p1, .inl (cI, 12, .inl (fun _ => (0 : Int32)))), (p2, .inl (cI, 12, .inl (fun _ => (0 : Int32)))), (p3, .inl (cI, 24, .inl (fun _ => (-1 : Int32)))), (p4, .inl (cZ, 12, .inl (fun _ => (0 : Int32)))), (ht, .inr (4, [.ref t0, .int (1 : Int32), .int (1 : Int32), .long (2 : Int64)])), (t0, .inl (cI, 30, .inl fp2_26))]) hK hN [0, 1, 2, 3, 4, 5, 6, 7, 8] rfl (by decide)) gX5_digest_X5_run rfl rfl kd_X5_run ⟨by decide, by decide⟩ (st := [.long (3415371079628435629 : Int64)]) rfl (Nat.le_of_ble_eq_true rfl) dX5_digest_121 ⟨by decide, by decide⟩) hA (fun _ h => h) [0, 1, 2, 3, 4, 5, 6, 7, 8] [9, 10, 11, 12, 13, 14, 15, 16, 17] (wr := [(hg, .inr (1, [.ref g0, .ref g1, .ref g2, .int (1 : Int32)])), (g0, .inl (cI, 4, .inl (fun _ => (1 : Int32)))), (g1, .inl (cI, 4, .inl (fun _ => (1 : Int32)))), (g2, .inl (cI, 4, .inl (fun _ => (1 : Int32)))), (ha, .inr (0, [.ref a0, .ref a1, .ref a2, .ref a3, .int (0 : Int32), .long (0 : Int64)])), (a0, .inl (cI, 41, .inl fa0b_26)), (a1, .inl (cI, 41, .inl fa1b_26)), (a3, .inl (cL, 41, .inr (.inl fa3b_26))), (hq, .inr (3, [.ref r0, .ref r1, .ref r2, .int (0 : Int32)]))]) rfl rfl (by decide) (by decide) [9, 10, 11, 12, 13, 14, 15, 16, 17, 0, 1, 2, 3, 4, 5, 6, 7, 8] (by decide) (fun _ => rfl) (fun u hu => ?_)
  obtain ⟨fp2_28, e9⟩ : ∃ z, z = u := ⟨_, rfl⟩; subst e9
  try dsimp only at hu ⊢
  refine g_i2l (v := (1 : Int64)) B dX5_digest_124 (by decide) ?_
  refine g_ladd (v := (3415371079628435630 : Int64)) B dX5_digest_125 (by decide) ?_
  refine g_lstore_n (lv' := [(0, .ref hb), (1, .long (3415371079628435630 : Int64)), (3, .int (1 : Int32))]) B dX5_digest_126 rfl (by decide) [1, 0, 2] rfl ?_
  refine g_lload_n B dX5_digest_127 1 rfl ?_
  refine g_ldc2 (v := (31 : Int64)) B dX5_digest_128 (List.mem_of_getElem? (i := 2) rfl) ?_
  refine g_lmul (v := (-4803960973775805166 : Int64)) B dX5_digest_131 (by decide) ?_
  refine g_aload_n B dX5_digest_132 0 rfl ?_
  refine g_iload_n B dX5_digest_133 2 rfl ?_
  refine g_callW (w2 := (fun (fp2_29 : Nat → Int32) => [(hb, .inr (5, [.ref hp, .ref ht, .ref hg, .ref ha, .ref hq])), (hp, .inr (2, [.ref p0, .ref p1, .ref p2, .ref p3, .ref p4])), (p0, .inl (cI, 12, .inl (fun _ => (0 : Int32)))), (p1, .inl (cI, 12, .inl (fun _ => (0 : Int32)))), (p2, .inl (cI, 12, .inl (fun _ => (0 : Int32)))), (p3, .inl (cI, 24, .inl (fun _ => (-1 : Int32)))), (p4, .inl (cZ, 12, .inl (fun _ => (0 : Int32)))), (ht, .inr (4, [.ref t0, .int (1 : Int32), .int (1 : Int32), .long (2 : Int64)])), (t0, .inl (cI, 30, .inl fp2_29)), (hg, .inr (1, [.ref g0, .ref g1, .ref g2, .int (1 : Int32)])), (g0, .inl (cI, 4, .inl (fun _ => (1 : Int32)))), (g1, .inl (cI, 4, .inl (fun _ => (1 : Int32)))), (g2, .inl (cI, 4, .inl (fun _ => (1 : Int32)))), (ha, .inr (0, [.ref a0, .ref a1, .ref a2, .ref a3, .int (0 : Int32), .long (0 : Int64)])), (a0, .inl (cI, 41, .inl fa0b_26)), (a1, .inl (cI, 41, .inl fa1b_26)), (a3, .inl (cL, 41, .inr (.inl fa3b_26))), (hq, .inr (3, [.ref r0, .ref r1, .ref r2, .int (0 : Int32)]))])) (g_runV (q0 := 0) (ci := 5) B hK rfl rfl (k_covers_v l (D := D) (cI := cI) (cL := cL) (cZ := cZ) hb hp ht hg ha hq p0 p1 p2 p3 p4 t0 fp2_28 (1 : Int32) (1 : Int32) (2 : Int64) 1 (by omega)) (gPw.pre (av := [.ref hb, .int (1 : Int32)]) (wc := [(hb, .inr (5, [.ref hp, .ref ht, .ref hg, .ref ha, .ref hq])), (hp, .inr (2, [.ref p0, .ref p1, .ref p2, .ref p3, .ref p4])), (p0, .inl (cI, 12, .inl (fun _ => (0 : Int32)))), (p1, .inl (cI, 12, .inl (fun _ => (0 : Int32)))), (p2, .inl (cI, 12, .inl (fun _ => (0 : Int32)))), (p3, .inl (cI, 24, .inl (fun _ => (-1 : Int32)))), (p4, .inl (cZ, 12, .inl (fun _ => (0 : Int32)))), (ht, .inr (4, [.ref t0, .int (1 : Int32), .int (1 : Int32), .long (2 : Int64)])), (t0, .inl (cI, 30, .inl fp2_28))]) hK hN [0, 1, 2, 3, 4, 5, 6, 7, 8] rfl (by decide)) gX5_digest_X5_covers rfl rfl kd_X5_covers ⟨by decide, by decide⟩ (st := [.long (-4803960973775805166 : Int64)]) rfl (Nat.le_of_ble_eq_true rfl) dX5_digest_134 ⟨by decide, by decide⟩) hA (fun _ h => h) [0, 1, 2, 3, 4, 5, 6, 7, 8] [9, 10, 11, 12, 13, 14, 15, 16, 17] (wr := [(hg, .inr (1, [.ref g0, .ref g1, .ref g2, .int (1 : Int32)])), (g0, .inl (cI, 4, .inl (fun _ => (1 : Int32)))), (g1, .inl (cI, 4, .inl (fun _ => (1 : Int32)))), (g2, .inl (cI, 4, .inl (fun _ => (1 : Int32)))), (ha, .inr (0, [.ref a0, .ref a1, .ref a2, .ref a3, .int (0 : Int32), .long (0 : Int64)])), (a0, .inl (cI, 41, .inl fa0b_26)), (a1, .inl (cI, 41, .inl fa1b_26)), (a3, .inl (cL, 41, .inr (.inl fa3b_26))), (hq, .inr (3, [.ref r0, .ref r1, .ref r2, .int (0 : Int32)]))]) rfl rfl (by decide) (by decide) [9, 10, 11, 12, 13, 14, 15, 16, 17, 0, 1, 2, 3, 4, 5, 6, 7, 8] (by decide) (fun _ => rfl) (fun u hu => ?_)
  obtain ⟨fp2_29, e9⟩ : ∃ z, z = u := ⟨_, rfl⟩; subst e9
  try dsimp only at hu ⊢
  refine g_i2l (v := (1 : Int64)) B dX5_digest_137 (by decide) ?_
  refine g_ladd (v := (-4803960973775805165 : Int64)) B dX5_digest_138 (by decide) ?_
  refine g_lstore_n (lv' := [(0, .ref hb), (1, .long (-4803960973775805165 : Int64)), (3, .int (1 : Int32))]) B dX5_digest_139 rfl (by decide) [1, 0, 2] rfl ?_
  refine g_lload_n B dX5_digest_140 1 rfl ?_
  refine g_ldc2 (v := (31 : Int64)) B dX5_digest_141 (List.mem_of_getElem? (i := 2) rfl) ?_
  refine g_lmul (v := (-1348837597373547187 : Int64)) B dX5_digest_144 (by decide) ?_
  refine g_aload_n B dX5_digest_145 0 rfl ?_
  refine g_iload_n B dX5_digest_146 2 rfl ?_
  refine g_callW (w2 := (fun (z9 : (Nat → Int32) × (Nat → Int32) × (Nat → Int32) × (Nat → Int64)) => [(hb, .inr (5, [.ref hp, .ref ht, .ref hg, .ref ha, .ref hq])), (hp, .inr (2, [.ref p0, .ref p1, .ref p2, .ref p3, .ref p4])), (p0, .inl (cI, 12, .inl (fun _ => (0 : Int32)))), (p1, .inl (cI, 12, .inl (fun _ => (0 : Int32)))), (p2, .inl (cI, 12, .inl (fun _ => (0 : Int32)))), (p3, .inl (cI, 24, .inl (fun _ => (-1 : Int32)))), (p4, .inl (cZ, 12, .inl (fun _ => (0 : Int32)))), (ht, .inr (4, [.ref t0, .int (1 : Int32), .int (1 : Int32), .long (2 : Int64)])), (t0, .inl (cI, 30, .inl z9.1)), (hg, .inr (1, [.ref g0, .ref g1, .ref g2, .int (1 : Int32)])), (g0, .inl (cI, 4, .inl (fun _ => (1 : Int32)))), (g1, .inl (cI, 4, .inl (fun _ => (1 : Int32)))), (g2, .inl (cI, 4, .inl (fun _ => (1 : Int32)))), (ha, .inr (0, [.ref a0, .ref a1, .ref a2, .ref a3, .int (0 : Int32), .long (0 : Int64)])), (a0, .inl (cI, 41, .inl z9.2.1)), (a1, .inl (cI, 41, .inl z9.2.2.1)), (a3, .inl (cL, 41, .inr (.inl z9.2.2.2))), (hq, .inr (3, [.ref r0, .ref r1, .ref r2, .int (0 : Int32)]))])) (g_runV (q0 := 0) (ci := 5) B hK rfl rfl (k_wouldDrop_v l (D := D) (cI := cI) (cL := cL) (cZ := cZ) hb hp ht hg ha hq p0 p1 p2 p3 p4 t0 fp2_29 (1 : Int32) (1 : Int32) (2 : Int64) a0 a1 a2 a3 fa0b_26 fa1b_26 fa3b_26 1 (by omega)) (gPw.pre (av := [.ref hb, .int (1 : Int32)]) (wc := [(hb, .inr (5, [.ref hp, .ref ht, .ref hg, .ref ha, .ref hq])), (hp, .inr (2, [.ref p0, .ref p1, .ref p2, .ref p3, .ref p4])), (p0, .inl (cI, 12, .inl (fun _ => (0 : Int32)))), (p1, .inl (cI, 12, .inl (fun _ => (0 : Int32)))), (p2, .inl (cI, 12, .inl (fun _ => (0 : Int32)))), (p3, .inl (cI, 24, .inl (fun _ => (-1 : Int32)))), (p4, .inl (cZ, 12, .inl (fun _ => (0 : Int32)))), (ht, .inr (4, [.ref t0, .int (1 : Int32), .int (1 : Int32), .long (2 : Int64)])), (t0, .inl (cI, 30, .inl fp2_29)), (ha, .inr (0, [.ref a0, .ref a1, .ref a2, .ref a3, .int (0 : Int32), .long (0 : Int64)])), (a0, .inl (cI, 41, .inl fa0b_26)), (a1, .inl (cI, 41, .inl fa1b_26)), (a3, .inl (cL, 41, .inr (.inl fa3b_26)))]) hK hN [0, 1, 2, 3, 4, 5, 6, 7, 8, 13, 14, 15, 16] rfl (by decide)) gX5_digest_X5_wouldDrop rfl rfl kd_X5_wouldDrop ⟨by decide, by decide⟩ (st := [.long (-1348837597373547187 : Int64)]) rfl (Nat.le_of_ble_eq_true rfl) dX5_digest_147 ⟨by decide, by decide⟩) hA (fun _ h => h) [0, 1, 2, 3, 4, 5, 6, 7, 8, 13, 14, 15, 16] [9, 10, 11, 12, 17] (wr := [(hg, .inr (1, [.ref g0, .ref g1, .ref g2, .int (1 : Int32)])), (g0, .inl (cI, 4, .inl (fun _ => (1 : Int32)))), (g1, .inl (cI, 4, .inl (fun _ => (1 : Int32)))), (g2, .inl (cI, 4, .inl (fun _ => (1 : Int32)))), (hq, .inr (3, [.ref r0, .ref r1, .ref r2, .int (0 : Int32)]))]) rfl rfl (by decide) (by decide) [5, 6, 7, 8, 9, 10, 11, 12, 13, 0, 1, 2, 3, 14, 15, 16, 17, 4] (by decide) (fun _ => rfl) (fun u hu => ?_)
  obtain ⟨fp2_30, fa0b_30, fa1b_30, fa3b_30⟩ := u
  try dsimp only at hu ⊢
  refine g_i2l (v := (0 : Int64)) B dX5_digest_150 (by decide) ?_
  refine g_ladd (v := (-1348837597373547187 : Int64)) B dX5_digest_151 (by decide) ?_
  refine g_lstore_n (lv' := [(0, .ref hb), (1, .long (-1348837597373547187 : Int64)), (3, .int (1 : Int32))]) B dX5_digest_152 rfl (by decide) [1, 0, 2] rfl ?_
  refine g_iinc (lv' := [(0, .ref hb), (1, .long (-1348837597373547187 : Int64)), (3, .int (2 : Int32))]) B dX5_digest_153 2 rfl (by decide) (by decide) [1, 2, 0] rfl ?_
  refine g_goto (tgt := 108) B dX5_digest_156 (by decide) ?_
  refine g_iload_n B dX5_digest_108 2 rfl ?_
  refine g_bipush (v := (9 : Int32)) B dX5_digest_109 (by decide) ?_
  refine g_icmp_gt (tgt := 159) B dX5_digest_111 (by decide) (fun c31 => absurd c31 (by decide)) (fun _ => ?_)
  refine g_lload_n B dX5_digest_114 1 rfl ?_
  refine g_ldc2 (v := (31 : Int64)) B dX5_digest_115 (List.mem_of_getElem? (i := 2) rfl) ?_
  refine g_lmul (v := (-4920477371160859565 : Int64)) B dX5_digest_118 (by decide) ?_
  refine g_aload_n B dX5_digest_119 0 rfl ?_
  refine g_iload_n B dX5_digest_120 2 rfl ?_
  refine g_callW (w2 := (fun (fp2_32 : Nat → Int32) => [(hb, .inr (5, [.ref hp, .ref ht, .ref hg, .ref ha, .ref hq])), (hp, .inr (2, [.ref p0, .ref p1, .ref p2, .ref p3, .ref p4])), (p0, .inl (cI, 12, .inl (fun _ => (0 : Int32)))), (p1, .inl (cI, 12, .inl (fun _ => (0 : Int32)))), (p2, .inl (cI, 12, .inl (fun _ => (0 : Int32)))), (p3, .inl (cI, 24, .inl (fun _ => (-1 : Int32)))), (p4, .inl (cZ, 12, .inl (fun _ => (0 : Int32)))), (ht, .inr (4, [.ref t0, .int (1 : Int32), .int (1 : Int32), .long (2 : Int64)])), (t0, .inl (cI, 30, .inl fp2_32)), (hg, .inr (1, [.ref g0, .ref g1, .ref g2, .int (1 : Int32)])), (g0, .inl (cI, 4, .inl (fun _ => (1 : Int32)))), (g1, .inl (cI, 4, .inl (fun _ => (1 : Int32)))), (g2, .inl (cI, 4, .inl (fun _ => (1 : Int32)))), (ha, .inr (0, [.ref a0, .ref a1, .ref a2, .ref a3, .int (0 : Int32), .long (0 : Int64)])), (a0, .inl (cI, 41, .inl fa0b_30)), (a1, .inl (cI, 41, .inl fa1b_30)), (a3, .inl (cL, 41, .inr (.inl fa3b_30))), (hq, .inr (3, [.ref r0, .ref r1, .ref r2, .int (0 : Int32)]))])) (g_runV (q0 := 0) (ci := 5) B hK rfl rfl (k_run_v l (D := D) (cI := cI) (cL := cL) (cZ := cZ) hb hp ht hg ha hq p0 p1 p2 p3 p4 t0 fp2_30 (1 : Int32) (1 : Int32) (2 : Int64) 2 (by omega)) (gPw.pre (av := [.ref hb, .int (2 : Int32)]) (wc := [(hb, .inr (5, [.ref hp, .ref ht, .ref hg, .ref ha, .ref hq])), (hp, .inr (2, [.ref p0, .ref p1, .ref p2, .ref p3, .ref p4])), (p0, .inl (cI, 12, .inl (fun _ => (0 : Int32)))), (p1, .inl (cI, 12, .inl (fun _ => (0 : Int32)))), (p2, .inl (cI, 12, .inl (fun _ => (0 : Int32)))), (p3, .inl (cI, 24, .inl (fun _ => (-1 : Int32)))), (p4, .inl (cZ, 12, .inl (fun _ => (0 : Int32)))), (ht, .inr (4, [.ref t0, .int (1 : Int32), .int (1 : Int32), .long (2 : Int64)])), (t0, .inl (cI, 30, .inl fp2_30))]) hK hN [0, 1, 2, 3, 4, 5, 6, 7, 8] rfl (by decide)) gX5_digest_X5_run rfl rfl kd_X5_run ⟨by decide, by decide⟩ (st := [.long (-4920477371160859565 : Int64)]) rfl (Nat.le_of_ble_eq_true rfl) dX5_digest_121 ⟨by decide, by decide⟩) hA (fun _ h => h) [0, 1, 2, 3, 4, 5, 6, 7, 8] [9, 10, 11, 12, 13, 14, 15, 16, 17] (wr := [(hg, .inr (1, [.ref g0, .ref g1, .ref g2, .int (1 : Int32)])), (g0, .inl (cI, 4, .inl (fun _ => (1 : Int32)))), (g1, .inl (cI, 4, .inl (fun _ => (1 : Int32)))), (g2, .inl (cI, 4, .inl (fun _ => (1 : Int32)))), (ha, .inr (0, [.ref a0, .ref a1, .ref a2, .ref a3, .int (0 : Int32), .long (0 : Int64)])), (a0, .inl (cI, 41, .inl fa0b_30)), (a1, .inl (cI, 41, .inl fa1b_30)), (a3, .inl (cL, 41, .inr (.inl fa3b_30))), (hq, .inr (3, [.ref r0, .ref r1, .ref r2, .int (0 : Int32)]))]) rfl rfl (by decide) (by decide) [9, 10, 11, 12, 13, 14, 15, 16, 17, 0, 1, 2, 3, 4, 5, 6, 7, 8] (by decide) (fun _ => rfl) (fun u hu => ?_)
  obtain ⟨fp2_32, e9⟩ : ∃ z, z = u := ⟨_, rfl⟩; subst e9
  try dsimp only at hu ⊢
  refine g_i2l (v := (1 : Int64)) B dX5_digest_124 (by decide) ?_
  refine g_ladd (v := (-4920477371160859564 : Int64)) B dX5_digest_125 (by decide) ?_
  refine g_lstore_n (lv' := [(0, .ref hb), (1, .long (-4920477371160859564 : Int64)), (3, .int (2 : Int32))]) B dX5_digest_126 rfl (by decide) [1, 0, 2] rfl ?_
  refine g_lload_n B dX5_digest_127 1 rfl ?_
  refine g_ldc2 (v := (31 : Int64)) B dX5_digest_128 (List.mem_of_getElem? (i := 2) rfl) ?_
  refine g_lmul (v := (-4960845916310233556 : Int64)) B dX5_digest_131 (by decide) ?_
  refine g_aload_n B dX5_digest_132 0 rfl ?_
  refine g_iload_n B dX5_digest_133 2 rfl ?_
  refine g_callW (w2 := (fun (fp2_33 : Nat → Int32) => [(hb, .inr (5, [.ref hp, .ref ht, .ref hg, .ref ha, .ref hq])), (hp, .inr (2, [.ref p0, .ref p1, .ref p2, .ref p3, .ref p4])), (p0, .inl (cI, 12, .inl (fun _ => (0 : Int32)))), (p1, .inl (cI, 12, .inl (fun _ => (0 : Int32)))), (p2, .inl (cI, 12, .inl (fun _ => (0 : Int32)))), (p3, .inl (cI, 24, .inl (fun _ => (-1 : Int32)))), (p4, .inl (cZ, 12, .inl (fun _ => (0 : Int32)))), (ht, .inr (4, [.ref t0, .int (1 : Int32), .int (1 : Int32), .long (2 : Int64)])), (t0, .inl (cI, 30, .inl fp2_33)), (hg, .inr (1, [.ref g0, .ref g1, .ref g2, .int (1 : Int32)])), (g0, .inl (cI, 4, .inl (fun _ => (1 : Int32)))), (g1, .inl (cI, 4, .inl (fun _ => (1 : Int32)))), (g2, .inl (cI, 4, .inl (fun _ => (1 : Int32)))), (ha, .inr (0, [.ref a0, .ref a1, .ref a2, .ref a3, .int (0 : Int32), .long (0 : Int64)])), (a0, .inl (cI, 41, .inl fa0b_30)), (a1, .inl (cI, 41, .inl fa1b_30)), (a3, .inl (cL, 41, .inr (.inl fa3b_30))), (hq, .inr (3, [.ref r0, .ref r1, .ref r2, .int (0 : Int32)]))])) (g_runV (q0 := 0) (ci := 5) B hK rfl rfl (k_covers_v l (D := D) (cI := cI) (cL := cL) (cZ := cZ) hb hp ht hg ha hq p0 p1 p2 p3 p4 t0 fp2_32 (1 : Int32) (1 : Int32) (2 : Int64) 2 (by omega)) (gPw.pre (av := [.ref hb, .int (2 : Int32)]) (wc := [(hb, .inr (5, [.ref hp, .ref ht, .ref hg, .ref ha, .ref hq])), (hp, .inr (2, [.ref p0, .ref p1, .ref p2, .ref p3, .ref p4])), (p0, .inl (cI, 12, .inl (fun _ => (0 : Int32)))), (p1, .inl (cI, 12, .inl (fun _ => (0 : Int32)))), (p2, .inl (cI, 12, .inl (fun _ => (0 : Int32)))), (p3, .inl (cI, 24, .inl (fun _ => (-1 : Int32)))), (p4, .inl (cZ, 12, .inl (fun _ => (0 : Int32)))), (ht, .inr (4, [.ref t0, .int (1 : Int32), .int (1 : Int32), .long (2 : Int64)])), (t0, .inl (cI, 30, .inl fp2_32))]) hK hN [0, 1, 2, 3, 4, 5, 6, 7, 8] rfl (by decide)) gX5_digest_X5_covers rfl rfl kd_X5_covers ⟨by decide, by decide⟩ (st := [.long (-4960845916310233556 : Int64)]) rfl (Nat.le_of_ble_eq_true rfl) dX5_digest_134 ⟨by decide, by decide⟩) hA (fun _ h => h) [0, 1, 2, 3, 4, 5, 6, 7, 8] [9, 10, 11, 12, 13, 14, 15, 16, 17] (wr := [(hg, .inr (1, [.ref g0, .ref g1, .ref g2, .int (1 : Int32)])), (g0, .inl (cI, 4, .inl (fun _ => (1 : Int32)))), (g1, .inl (cI, 4, .inl (fun _ => (1 : Int32)))), (g2, .inl (cI, 4, .inl (fun _ => (1 : Int32)))), (ha, .inr (0, [.ref a0, .ref a1, .ref a2, .ref a3, .int (0 : Int32), .long (0 : Int64)])), (a0, .inl (cI, 41, .inl fa0b_30)), (a1, .inl (cI, 41, .inl fa1b_30)), (a3, .inl (cL, 41, .inr (.inl fa3b_30))), (hq, .inr (3, [.ref r0, .ref r1, .ref r2, .int (0 : Int32)]))]) rfl rfl (by decide) (by decide) [9, 10, 11, 12, 13, 14, 15, 16, 17, 0, 1, 2, 3, 4, 5, 6, 7, 8] (by decide) (fun _ => rfl) (fun u hu => ?_)
  obtain ⟨fp2_33, e9⟩ : ∃ z, z = u := ⟨_, rfl⟩; subst e9
  try dsimp only at hu ⊢
  refine g_i2l (v := (1 : Int64)) B dX5_digest_137 (by decide) ?_
  refine g_ladd (v := (-4960845916310233555 : Int64)) B dX5_digest_138 (by decide) ?_
  refine g_lstore_n (lv' := [(0, .ref hb), (1, .long (-4960845916310233555 : Int64)), (3, .int (2 : Int32))]) B dX5_digest_139 rfl (by decide) [1, 0, 2] rfl ?_
  refine g_lload_n B dX5_digest_140 1 rfl ?_
  refine g_ldc2 (v := (31 : Int64)) B dX5_digest_141 (List.mem_of_getElem? (i := 2) rfl) ?_
  refine g_lmul (v := (-6212270815940827277 : Int64)) B dX5_digest_144 (by decide) ?_
  refine g_aload_n B dX5_digest_145 0 rfl ?_
  refine g_iload_n B dX5_digest_146 2 rfl ?_
  refine g_callW (w2 := (fun (z9 : (Nat → Int32) × (Nat → Int32) × (Nat → Int32) × (Nat → Int64)) => [(hb, .inr (5, [.ref hp, .ref ht, .ref hg, .ref ha, .ref hq])), (hp, .inr (2, [.ref p0, .ref p1, .ref p2, .ref p3, .ref p4])), (p0, .inl (cI, 12, .inl (fun _ => (0 : Int32)))), (p1, .inl (cI, 12, .inl (fun _ => (0 : Int32)))), (p2, .inl (cI, 12, .inl (fun _ => (0 : Int32)))), (p3, .inl (cI, 24, .inl (fun _ => (-1 : Int32)))), (p4, .inl (cZ, 12, .inl (fun _ => (0 : Int32)))), (ht, .inr (4, [.ref t0, .int (1 : Int32), .int (1 : Int32), .long (2 : Int64)])), (t0, .inl (cI, 30, .inl z9.1)), (hg, .inr (1, [.ref g0, .ref g1, .ref g2, .int (1 : Int32)])), (g0, .inl (cI, 4, .inl (fun _ => (1 : Int32)))), (g1, .inl (cI, 4, .inl (fun _ => (1 : Int32)))), (g2, .inl (cI, 4, .inl (fun _ => (1 : Int32)))), (ha, .inr (0, [.ref a0, .ref a1, .ref a2, .ref a3, .int (0 : Int32), .long (0 : Int64)])), (a0, .inl (cI, 41, .inl z9.2.1)), (a1, .inl (cI, 41, .inl z9.2.2.1)), (a3, .inl (cL, 41, .inr (.inl z9.2.2.2))), (hq, .inr (3, [.ref r0, .ref r1, .ref r2, .int (0 : Int32)]))])) (g_runV (q0 := 0) (ci := 5) B hK rfl rfl (k_wouldDrop_v l (D := D) (cI := cI) (cL := cL) (cZ := cZ) hb hp ht hg ha hq p0 p1 p2 p3 p4 t0 fp2_33 (1 : Int32) (1 : Int32) (2 : Int64) a0 a1 a2 a3 fa0b_30 fa1b_30 fa3b_30 2 (by omega)) (gPw.pre (av := [.ref hb, .int (2 : Int32)]) (wc := [(hb, .inr (5, [.ref hp, .ref ht, .ref hg, .ref ha, .ref hq])), (hp, .inr (2, [.ref p0, .ref p1, .ref p2, .ref p3, .ref p4])), (p0, .inl (cI, 12, .inl (fun _ => (0 : Int32)))), (p1, .inl (cI, 12, .inl (fun _ => (0 : Int32)))), (p2, .inl (cI, 12, .inl (fun _ => (0 : Int32)))), (p3, .inl (cI, 24, .inl (fun _ => (-1 : Int32)))), (p4, .inl (cZ, 12, .inl (fun _ => (0 : Int32)))), (ht, .inr (4, [.ref t0, .int (1 : Int32), .int (1 : Int32), .long (2 : Int64)])), (t0, .inl (cI, 30, .inl fp2_33)), (ha, .inr (0, [.ref a0, .ref a1, .ref a2, .ref a3, .int (0 : Int32), .long (0 : Int64)])), (a0, .inl (cI, 41, .inl fa0b_30)), (a1, .inl (cI, 41, .inl fa1b_30)), (a3, .inl (cL, 41, .inr (.inl fa3b_30)))]) hK hN [0, 1, 2, 3, 4, 5, 6, 7, 8, 13, 14, 15, 16] rfl (by decide)) gX5_digest_X5_wouldDrop rfl rfl kd_X5_wouldDrop ⟨by decide, by decide⟩ (st := [.long (-6212270815940827277 : Int64)]) rfl (Nat.le_of_ble_eq_true rfl) dX5_digest_147 ⟨by decide, by decide⟩) hA (fun _ h => h) [0, 1, 2, 3, 4, 5, 6, 7, 8, 13, 14, 15, 16] [9, 10, 11, 12, 17] (wr := [(hg, .inr (1, [.ref g0, .ref g1, .ref g2, .int (1 : Int32)])), (g0, .inl (cI, 4, .inl (fun _ => (1 : Int32)))), (g1, .inl (cI, 4, .inl (fun _ => (1 : Int32)))), (g2, .inl (cI, 4, .inl (fun _ => (1 : Int32)))), (hq, .inr (3, [.ref r0, .ref r1, .ref r2, .int (0 : Int32)]))]) rfl rfl (by decide) (by decide) [5, 6, 7, 8, 9, 10, 11, 12, 13, 0, 1, 2, 3, 14, 15, 16, 17, 4] (by decide) (fun _ => rfl) (fun u hu => ?_)
  obtain ⟨fp2_34, fa0b_34, fa1b_34, fa3b_34⟩ := u
  try dsimp only at hu ⊢
  refine g_i2l (v := (0 : Int64)) B dX5_digest_150 (by decide) ?_
  refine g_ladd (v := (-6212270815940827277 : Int64)) B dX5_digest_151 (by decide) ?_
  refine g_lstore_n (lv' := [(0, .ref hb), (1, .long (-6212270815940827277 : Int64)), (3, .int (2 : Int32))]) B dX5_digest_152 rfl (by decide) [1, 0, 2] rfl ?_
  refine g_iinc (lv' := [(0, .ref hb), (1, .long (-6212270815940827277 : Int64)), (3, .int (3 : Int32))]) B dX5_digest_153 2 rfl (by decide) (by decide) [1, 2, 0] rfl ?_
  refine g_goto (tgt := 108) B dX5_digest_156 (by decide) ?_
  refine g_iload_n B dX5_digest_108 2 rfl ?_
  refine g_bipush (v := (9 : Int32)) B dX5_digest_109 (by decide) ?_
  refine g_icmp_gt (tgt := 159) B dX5_digest_111 (by decide) (fun c35 => absurd c35 (by decide)) (fun _ => ?_)
  refine g_lload_n B dX5_digest_114 1 rfl ?_
  refine g_ldc2 (v := (31 : Int64)) B dX5_digest_115 (List.mem_of_getElem? (i := 2) rfl) ?_
  refine g_lmul (v := (-8112954557070129427 : Int64)) B dX5_digest_118 (by decide) ?_
  refine g_aload_n B dX5_digest_119 0 rfl ?_
  refine g_iload_n B dX5_digest_120 2 rfl ?_
  refine g_callW (w2 := (fun (fp2_36 : Nat → Int32) => [(hb, .inr (5, [.ref hp, .ref ht, .ref hg, .ref ha, .ref hq])), (hp, .inr (2, [.ref p0, .ref p1, .ref p2, .ref p3, .ref p4])), (p0, .inl (cI, 12, .inl (fun _ => (0 : Int32)))), (p1, .inl (cI, 12, .inl (fun _ => (0 : Int32)))), (p2, .inl (cI, 12, .inl (fun _ => (0 : Int32)))), (p3, .inl (cI, 24, .inl (fun _ => (-1 : Int32)))), (p4, .inl (cZ, 12, .inl (fun _ => (0 : Int32)))), (ht, .inr (4, [.ref t0, .int (1 : Int32), .int (1 : Int32), .long (2 : Int64)])), (t0, .inl (cI, 30, .inl fp2_36)), (hg, .inr (1, [.ref g0, .ref g1, .ref g2, .int (1 : Int32)])), (g0, .inl (cI, 4, .inl (fun _ => (1 : Int32)))), (g1, .inl (cI, 4, .inl (fun _ => (1 : Int32)))), (g2, .inl (cI, 4, .inl (fun _ => (1 : Int32)))), (ha, .inr (0, [.ref a0, .ref a1, .ref a2, .ref a3, .int (0 : Int32), .long (0 : Int64)])), (a0, .inl (cI, 41, .inl fa0b_34)), (a1, .inl (cI, 41, .inl fa1b_34)), (a3, .inl (cL, 41, .inr (.inl fa3b_34))), (hq, .inr (3, [.ref r0, .ref r1, .ref r2, .int (0 : Int32)]))])) (g_runV (q0 := 0) (ci := 5) B hK rfl rfl (k_run_v l (D := D) (cI := cI) (cL := cL) (cZ := cZ) hb hp ht hg ha hq p0 p1 p2 p3 p4 t0 fp2_34 (1 : Int32) (1 : Int32) (2 : Int64) 3 (by omega)) (gPw.pre (av := [.ref hb, .int (3 : Int32)]) (wc := [(hb, .inr (5, [.ref hp, .ref ht, .ref hg, .ref ha, .ref hq])), (hp, .inr (2, [.ref p0, .ref p1, .ref p2, .ref p3, .ref p4])), (p0, .inl (cI, 12, .inl (fun _ => (0 : Int32)))), (p1, .inl (cI, 12, .inl (fun _ => (0 : Int32)))), (p2, .inl (cI, 12, .inl (fun _ => (0 : Int32)))), (p3, .inl (cI, 24, .inl (fun _ => (-1 : Int32)))), (p4, .inl (cZ, 12, .inl (fun _ => (0 : Int32)))), (ht, .inr (4, [.ref t0, .int (1 : Int32), .int (1 : Int32), .long (2 : Int64)])), (t0, .inl (cI, 30, .inl fp2_34))]) hK hN [0, 1, 2, 3, 4, 5, 6, 7, 8] rfl (by decide)) gX5_digest_X5_run rfl rfl kd_X5_run ⟨by decide, by decide⟩ (st := [.long (-8112954557070129427 : Int64)]) rfl (Nat.le_of_ble_eq_true rfl) dX5_digest_121 ⟨by decide, by decide⟩) hA (fun _ h => h) [0, 1, 2, 3, 4, 5, 6, 7, 8] [9, 10, 11, 12, 13, 14, 15, 16, 17] (wr := [(hg, .inr (1, [.ref g0, .ref g1, .ref g2, .int (1 : Int32)])), (g0, .inl (cI, 4, .inl (fun _ => (1 : Int32)))), (g1, .inl (cI, 4, .inl (fun _ => (1 : Int32)))), (g2, .inl (cI, 4, .inl (fun _ => (1 : Int32)))), (ha, .inr (0, [.ref a0, .ref a1, .ref a2, .ref a3, .int (0 : Int32), .long (0 : Int64)])), (a0, .inl (cI, 41, .inl fa0b_34)), (a1, .inl (cI, 41, .inl fa1b_34)), (a3, .inl (cL, 41, .inr (.inl fa3b_34))), (hq, .inr (3, [.ref r0, .ref r1, .ref r2, .int (0 : Int32)]))]) rfl rfl (by decide) (by decide) [9, 10, 11, 12, 13, 14, 15, 16, 17, 0, 1, 2, 3, 4, 5, 6, 7, 8] (by decide) (fun _ => rfl) (fun u hu => ?_)
  obtain ⟨fp2_36, e9⟩ : ∃ z, z = u := ⟨_, rfl⟩; subst e9
  try dsimp only at hu ⊢
  refine g_i2l (v := (1 : Int64)) B dX5_digest_124 (by decide) ?_
  refine g_ladd (v := (-8112954557070129426 : Int64)) B dX5_digest_125 (by decide) ?_
  refine g_lstore_n (lv' := [(0, .ref hb), (1, .long (-8112954557070129426 : Int64)), (3, .int (3 : Int32))]) B dX5_digest_126 rfl (by decide) [1, 0, 2] rfl ?_
  refine g_lload_n B dX5_digest_127 1 rfl ?_
  refine g_ldc2 (v := (31 : Int64)) B dX5_digest_128 (List.mem_of_getElem? (i := 2) rfl) ?_
  refine g_lmul (v := (6752825762759710418 : Int64)) B dX5_digest_131 (by decide) ?_
  refine g_aload_n B dX5_digest_132 0 rfl ?_
  refine g_iload_n B dX5_digest_133 2 rfl ?_
  refine g_callW (w2 := (fun (fp2_37 : Nat → Int32) => [(hb, .inr (5, [.ref hp, .ref ht, .ref hg, .ref ha, .ref hq])), (hp, .inr (2, [.ref p0, .ref p1, .ref p2, .ref p3, .ref p4])), (p0, .inl (cI, 12, .inl (fun _ => (0 : Int32)))), (p1, .inl (cI, 12, .inl (fun _ => (0 : Int32)))), (p2, .inl (cI, 12, .inl (fun _ => (0 : Int32)))), (p3, .inl (cI, 24, .inl (fun _ => (-1 : Int32)))), (p4, .inl (cZ, 12, .inl (fun _ => (0 : Int32)))), (ht, .inr (4, [.ref t0, .int (1 : Int32), .int (1 : Int32), .long (2 : Int64)])), (t0, .inl (cI, 30, .inl fp2_37)), (hg, .inr (1, [.ref g0, .ref g1, .ref g2, .int (1 : Int32)])), (g0, .inl (cI, 4, .inl (fun _ => (1 : Int32)))), (g1, .inl (cI, 4, .inl (fun _ => (1 : Int32)))), (g2, .inl (cI, 4, .inl (fun _ => (1 : Int32)))), (ha, .inr (0, [.ref a0, .ref a1, .ref a2, .ref a3, .int (0 : Int32), .long (0 : Int64)])), (a0, .inl (cI, 41, .inl fa0b_34)), (a1, .inl (cI, 41, .inl fa1b_34)), (a3, .inl (cL, 41, .inr (.inl fa3b_34))), (hq, .inr (3, [.ref r0, .ref r1, .ref r2, .int (0 : Int32)]))])) (g_runV (q0 := 0) (ci := 5) B hK rfl rfl (k_covers_v l (D := D) (cI := cI) (cL := cL) (cZ := cZ) hb hp ht hg ha hq p0 p1 p2 p3 p4 t0 fp2_36 (1 : Int32) (1 : Int32) (2 : Int64) 3 (by omega)) (gPw.pre (av := [.ref hb, .int (3 : Int32)]) (wc := [(hb, .inr (5, [.ref hp, .ref ht, .ref hg, .ref ha, .ref hq])), (hp, .inr (2, [.ref p0, .ref p1, .ref p2, .ref p3, .ref p4])), (p0, .inl (cI, 12, .inl (fun _ => (0 : Int32)))), (p1, .inl (cI, 12, .inl (fun _ => (0 : Int32)))), (p2, .inl (cI, 12, .inl (fun _ => (0 : Int32)))), (p3, .inl (cI, 24, .inl (fun _ => (-1 : Int32)))), (p4, .inl (cZ, 12, .inl (fun _ => (0 : Int32)))), (ht, .inr (4, [.ref t0, .int (1 : Int32), .int (1 : Int32), .long (2 : Int64)])), (t0, .inl (cI, 30, .inl fp2_36))]) hK hN [0, 1, 2, 3, 4, 5, 6, 7, 8] rfl (by decide)) gX5_digest_X5_covers rfl rfl kd_X5_covers ⟨by decide, by decide⟩ (st := [.long (6752825762759710418 : Int64)]) rfl (Nat.le_of_ble_eq_true rfl) dX5_digest_134 ⟨by decide, by decide⟩) hA (fun _ h => h) [0, 1, 2, 3, 4, 5, 6, 7, 8] [9, 10, 11, 12, 13, 14, 15, 16, 17] (wr := [(hg, .inr (1, [.ref g0, .ref g1, .ref g2, .int (1 : Int32)])), (g0, .inl (cI, 4, .inl (fun _ => (1 : Int32)))), (g1, .inl (cI, 4, .inl (fun _ => (1 : Int32)))), (g2, .inl (cI, 4, .inl (fun _ => (1 : Int32)))), (ha, .inr (0, [.ref a0, .ref a1, .ref a2, .ref a3, .int (0 : Int32), .long (0 : Int64)])), (a0, .inl (cI, 41, .inl fa0b_34)), (a1, .inl (cI, 41, .inl fa1b_34)), (a3, .inl (cL, 41, .inr (.inl fa3b_34))), (hq, .inr (3, [.ref r0, .ref r1, .ref r2, .int (0 : Int32)]))]) rfl rfl (by decide) (by decide) [9, 10, 11, 12, 13, 14, 15, 16, 17, 0, 1, 2, 3, 4, 5, 6, 7, 8] (by decide) (fun _ => rfl) (fun u hu => ?_)
  obtain ⟨fp2_37, e9⟩ : ∃ z, z = u := ⟨_, rfl⟩; subst e9
  try dsimp only at hu ⊢
  refine g_i2l (v := (1 : Int64)) B dX5_digest_137 (by decide) ?_
  refine g_ladd (v := (6752825762759710419 : Int64)) B dX5_digest_138 (by decide) ?_
  refine g_lstore_n (lv' := [(0, .ref hb), (1, .long (6752825762759710419 : Int64)), (3, .int (3 : Int32))]) B dX5_digest_139 rfl (by decide) [1, 0, 2] rfl ?_
  refine g_lload_n B dX5_digest_140 1 rfl ?_
  refine g_ldc2 (v := (31 : Int64)) B dX5_digest_141 (List.mem_of_getElem? (i := 2) rfl) ?_
  refine g_lmul (v := (6423413834745955213 : Int64)) B dX5_digest_144 (by decide) ?_
  refine g_aload_n B dX5_digest_145 0 rfl ?_
  refine g_iload_n B dX5_digest_146 2 rfl ?_
  refine g_callW (w2 := (fun (z9 : (Nat → Int32) × (Nat → Int32) × (Nat → Int32) × (Nat → Int64)) => [(hb, .inr (5, [.ref hp, .ref ht, .ref hg, .ref ha, .ref hq])), (hp, .inr (2, [.ref p0, .ref p1, .ref p2, .ref p3, .ref p4])), (p0, .inl (cI, 12, .inl (fun _ => (0 : Int32)))), (p1, .inl (cI, 12, .inl (fun _ => (0 : Int32)))), (p2, .inl (cI, 12, .inl (fun _ => (0 : Int32)))), (p3, .inl (cI, 24, .inl (fun _ => (-1 : Int32)))), (p4, .inl (cZ, 12, .inl (fun _ => (0 : Int32)))), (ht, .inr (4, [.ref t0, .int (1 : Int32), .int (1 : Int32), .long (2 : Int64)])), (t0, .inl (cI, 30, .inl z9.1)), (hg, .inr (1, [.ref g0, .ref g1, .ref g2, .int (1 : Int32)])), (g0, .inl (cI, 4, .inl (fun _ => (1 : Int32)))), (g1, .inl (cI, 4, .inl (fun _ => (1 : Int32)))), (g2, .inl (cI, 4, .inl (fun _ => (1 : Int32)))), (ha, .inr (0, [.ref a0, .ref a1, .ref a2, .ref a3, .int (0 : Int32), .long (0 : Int64)])), (a0, .inl (cI, 41, .inl z9.2.1)), (a1, .inl (cI, 41, .inl z9.2.2.1)), (a3, .inl (cL, 41, .inr (.inl z9.2.2.2))), (hq, .inr (3, [.ref r0, .ref r1, .ref r2, .int (0 : Int32)]))])) (g_runV (q0 := 0) (ci := 5) B hK rfl rfl (k_wouldDrop_v l (D := D) (cI := cI) (cL := cL) (cZ := cZ) hb hp ht hg ha hq p0 p1 p2 p3 p4 t0 fp2_37 (1 : Int32) (1 : Int32) (2 : Int64) a0 a1 a2 a3 fa0b_34 fa1b_34 fa3b_34 3 (by omega)) (gPw.pre (av := [.ref hb, .int (3 : Int32)]) (wc := [(hb, .inr (5, [.ref hp, .ref ht, .ref hg, .ref ha, .ref hq])), (hp, .inr (2, [.ref p0, .ref p1, .ref p2, .ref p3, .ref p4])), (p0, .inl (cI, 12, .inl (fun _ => (0 : Int32)))), (p1, .inl (cI, 12, .inl (fun _ => (0 : Int32)))), (p2, .inl (cI, 12, .inl (fun _ => (0 : Int32)))), (p3, .inl (cI, 24, .inl (fun _ => (-1 : Int32)))), (p4, .inl (cZ, 12, .inl (fun _ => (0 : Int32)))), (ht, .inr (4, [.ref t0, .int (1 : Int32), .int (1 : Int32), .long (2 : Int64)])), (t0, .inl (cI, 30, .inl fp2_37)), (ha, .inr (0, [.ref a0, .ref a1, .ref a2, .ref a3, .int (0 : Int32), .long (0 : Int64)])), (a0, .inl (cI, 41, .inl fa0b_34)), (a1, .inl (cI, 41, .inl fa1b_34)), (a3, .inl (cL, 41, .inr (.inl fa3b_34)))]) hK hN [0, 1, 2, 3, 4, 5, 6, 7, 8, 13, 14, 15, 16] rfl (by decide)) gX5_digest_X5_wouldDrop rfl rfl kd_X5_wouldDrop ⟨by decide, by decide⟩ (st := [.long (6423413834745955213 : Int64)]) rfl (Nat.le_of_ble_eq_true rfl) dX5_digest_147 ⟨by decide, by decide⟩) hA (fun _ h => h) [0, 1, 2, 3, 4, 5, 6, 7, 8, 13, 14, 15, 16] [9, 10, 11, 12, 17] (wr := [(hg, .inr (1, [.ref g0, .ref g1, .ref g2, .int (1 : Int32)])), (g0, .inl (cI, 4, .inl (fun _ => (1 : Int32)))), (g1, .inl (cI, 4, .inl (fun _ => (1 : Int32)))), (g2, .inl (cI, 4, .inl (fun _ => (1 : Int32)))), (hq, .inr (3, [.ref r0, .ref r1, .ref r2, .int (0 : Int32)]))]) rfl rfl (by decide) (by decide) [5, 6, 7, 8, 9, 10, 11, 12, 13, 0, 1, 2, 3, 14, 15, 16, 17, 4] (by decide) (fun _ => rfl) (fun u hu => ?_)
  obtain ⟨fp2_38, fa0b_38, fa1b_38, fa3b_38⟩ := u
  try dsimp only at hu ⊢
  refine g_i2l (v := (0 : Int64)) B dX5_digest_150 (by decide) ?_
  refine g_ladd (v := (6423413834745955213 : Int64)) B dX5_digest_151 (by decide) ?_
  refine g_lstore_n (lv' := [(0, .ref hb), (1, .long (6423413834745955213 : Int64)), (3, .int (3 : Int32))]) B dX5_digest_152 rfl (by decide) [1, 0, 2] rfl ?_
  refine g_iinc (lv' := [(0, .ref hb), (1, .long (6423413834745955213 : Int64)), (3, .int (4 : Int32))]) B dX5_digest_153 2 rfl (by decide) (by decide) [1, 2, 0] rfl ?_
  refine g_goto (tgt := 108) B dX5_digest_156 (by decide) ?_
  refine g_iload_n B dX5_digest_108 2 rfl ?_
  refine g_bipush (v := (9 : Int32)) B dX5_digest_109 (by decide) ?_
  refine g_icmp_gt (tgt := 159) B dX5_digest_111 (by decide) (fun c39 => absurd c39 (by decide)) (fun _ => ?_)
  refine g_lload_n B dX5_digest_114 1 rfl ?_
  refine g_ldc2 (v := (31 : Int64)) B dX5_digest_115 (List.mem_of_getElem? (i := 2) rfl) ?_
  refine g_lmul (v := (-3788355933680456173 : Int64)) B dX5_digest_118 (by decide) ?_
  refine g_aload_n B dX5_digest_119 0 rfl ?_
  refine g_iload_n B dX5_digest_120 2 rfl ?_
  refine g_callW (w2 := (fun (fp2_40 : Nat → Int32) => [(hb, .inr (5, [.ref hp, .ref ht, .ref hg, .ref ha, .ref hq])), (hp, .inr (2, [.ref p0, .ref p1, .ref p2, .ref p3, .ref p4])), (p0, .inl (cI, 12, .inl (fun _ => (0 : Int32)))), (p1, .inl (cI, 12, .inl (fun _ => (0 : Int32)))), (p2, .inl (cI, 12, .inl (fun _ => (0 : Int32)))), (p3, .inl (cI, 24, .inl (fun _ => (-1 : Int32)))), (p4, .inl (cZ, 12, .inl (fun _ => (0 : Int32)))), (ht, .inr (4, [.ref t0, .int (1 : Int32), .int (1 : Int32), .long (2 : Int64)])), (t0, .inl (cI, 30, .inl fp2_40)), (hg, .inr (1, [.ref g0, .ref g1, .ref g2, .int (1 : Int32)])), (g0, .inl (cI, 4, .inl (fun _ => (1 : Int32)))), (g1, .inl (cI, 4, .inl (fun _ => (1 : Int32)))), (g2, .inl (cI, 4, .inl (fun _ => (1 : Int32)))), (ha, .inr (0, [.ref a0, .ref a1, .ref a2, .ref a3, .int (0 : Int32), .long (0 : Int64)])), (a0, .inl (cI, 41, .inl fa0b_38)), (a1, .inl (cI, 41, .inl fa1b_38)), (a3, .inl (cL, 41, .inr (.inl fa3b_38))), (hq, .inr (3, [.ref r0, .ref r1, .ref r2, .int (0 : Int32)]))])) (g_runV (q0 := 0) (ci := 5) B hK rfl rfl (k_run_v l (D := D) (cI := cI) (cL := cL) (cZ := cZ) hb hp ht hg ha hq p0 p1 p2 p3 p4 t0 fp2_38 (1 : Int32) (1 : Int32) (2 : Int64) 4 (by omega)) (gPw.pre (av := [.ref hb, .int (4 : Int32)]) (wc := [(hb, .inr (5, [.ref hp, .ref ht, .ref hg, .ref ha, .ref hq])), (hp, .inr (2, [.ref p0, .ref p1, .ref p2, .ref p3, .ref p4])), (p0, .inl (cI, 12, .inl (fun _ => (0 : Int32)))), (p1, .inl (cI, 12, .inl (fun _ => (0 : Int32)))), (p2, .inl (cI, 12, .inl (fun _ => (0 : Int32)))), (p3, .inl (cI, 24, .inl (fun _ => (-1 : Int32)))), (p4, .inl (cZ, 12, .inl (fun _ => (0 : Int32)))), (ht, .inr (4, [.ref t0, .int (1 : Int32), .int (1 : Int32), .long (2 : Int64)])), (t0, .inl (cI, 30, .inl fp2_38))]) hK hN [0, 1, 2, 3, 4, 5, 6, 7, 8] rfl (by decide)) gX5_digest_X5_run rfl rfl kd_X5_run ⟨by decide, by decide⟩ (st := [.long (-3788355933680456173 : Int64)]) rfl (Nat.le_of_ble_eq_true rfl) dX5_digest_121 ⟨by decide, by decide⟩) hA (fun _ h => h) [0, 1, 2, 3, 4, 5, 6, 7, 8] [9, 10, 11, 12, 13, 14, 15, 16, 17] (wr := [(hg, .inr (1, [.ref g0, .ref g1, .ref g2, .int (1 : Int32)])), (g0, .inl (cI, 4, .inl (fun _ => (1 : Int32)))), (g1, .inl (cI, 4, .inl (fun _ => (1 : Int32)))), (g2, .inl (cI, 4, .inl (fun _ => (1 : Int32)))), (ha, .inr (0, [.ref a0, .ref a1, .ref a2, .ref a3, .int (0 : Int32), .long (0 : Int64)])), (a0, .inl (cI, 41, .inl fa0b_38)), (a1, .inl (cI, 41, .inl fa1b_38)), (a3, .inl (cL, 41, .inr (.inl fa3b_38))), (hq, .inr (3, [.ref r0, .ref r1, .ref r2, .int (0 : Int32)]))]) rfl rfl (by decide) (by decide) [9, 10, 11, 12, 13, 14, 15, 16, 17, 0, 1, 2, 3, 4, 5, 6, 7, 8] (by decide) (fun _ => rfl) (fun u hu => ?_)
  obtain ⟨fp2_40, e9⟩ : ∃ z, z = u := ⟨_, rfl⟩; subst e9
  try dsimp only at hu ⊢
  refine g_i2l (v := (1 : Int64)) B dX5_digest_124 (by decide) ?_
  refine g_ladd (v := (-3788355933680456172 : Int64)) B dX5_digest_125 (by decide) ?_
  refine g_lstore_n (lv' := [(0, .ref hb), (1, .long (-3788355933680456172 : Int64)), (3, .int (4 : Int32))]) B dX5_digest_126 rfl (by decide) [1, 0, 2] rfl ?_
  refine g_lload_n B dX5_digest_127 1 rfl ?_
  refine g_ldc2 (v := (31 : Int64)) B dX5_digest_128 (List.mem_of_getElem? (i := 2) rfl) ?_
  refine g_lmul (v := (-6758569501836831636 : Int64)) B dX5_digest_131 (by decide) ?_
  refine g_aload_n B dX5_digest_132 0 rfl ?_
  refine g_iload_n B dX5_digest_133 2 rfl ?_
  refine g_callW (w2 := (fun (fp2_41 : Nat → Int32) => [(hb, .inr (5, [.ref hp, .ref ht, .ref hg, .ref ha, .ref hq])), (hp, .inr (2, [.ref p0, .ref p1, .ref p2, .ref p3, .ref p4])), (p0, .inl (cI, 12, .inl (fun _ => (0 : Int32)))), (p1, .inl (cI, 12, .inl (fun _ => (0 : Int32)))), (p2, .inl (cI, 12, .inl (fun _ => (0 : Int32)))), (p3, .inl (cI, 24, .inl (fun _ => (-1 : Int32)))), (p4, .inl (cZ, 12, .inl (fun _ => (0 : Int32)))), (ht, .inr (4, [.ref t0, .int (1 : Int32), .int (1 : Int32), .long (2 : Int64)])), (t0, .inl (cI, 30, .inl fp2_41)), (hg, .inr (1, [.ref g0, .ref g1, .ref g2, .int (1 : Int32)])), (g0, .inl (cI, 4, .inl (fun _ => (1 : Int32)))), (g1, .inl (cI, 4, .inl (fun _ => (1 : Int32)))), (g2, .inl (cI, 4, .inl (fun _ => (1 : Int32)))), (ha, .inr (0, [.ref a0, .ref a1, .ref a2, .ref a3, .int (0 : Int32), .long (0 : Int64)])), (a0, .inl (cI, 41, .inl fa0b_38)), (a1, .inl (cI, 41, .inl fa1b_38)), (a3, .inl (cL, 41, .inr (.inl fa3b_38))), (hq, .inr (3, [.ref r0, .ref r1, .ref r2, .int (0 : Int32)]))])) (g_runV (q0 := 0) (ci := 5) B hK rfl rfl (k_covers_v l (D := D) (cI := cI) (cL := cL) (cZ := cZ) hb hp ht hg ha hq p0 p1 p2 p3 p4 t0 fp2_40 (1 : Int32) (1 : Int32) (2 : Int64) 4 (by omega)) (gPw.pre (av := [.ref hb, .int (4 : Int32)]) (wc := [(hb, .inr (5, [.ref hp, .ref ht, .ref hg, .ref ha, .ref hq])), (hp, .inr (2, [.ref p0, .ref p1, .ref p2, .ref p3, .ref p4])), (p0, .inl (cI, 12, .inl (fun _ => (0 : Int32)))), (p1, .inl (cI, 12, .inl (fun _ => (0 : Int32)))), (p2, .inl (cI, 12, .inl (fun _ => (0 : Int32)))), (p3, .inl (cI, 24, .inl (fun _ => (-1 : Int32)))), (p4, .inl (cZ, 12, .inl (fun _ => (0 : Int32)))), (ht, .inr (4, [.ref t0, .int (1 : Int32), .int (1 : Int32), .long (2 : Int64)])), (t0, .inl (cI, 30, .inl fp2_40))]) hK hN [0, 1, 2, 3, 4, 5, 6, 7, 8] rfl (by decide)) gX5_digest_X5_covers rfl rfl kd_X5_covers ⟨by decide, by decide⟩ (st := [.long (-6758569501836831636 : Int64)]) rfl (Nat.le_of_ble_eq_true rfl) dX5_digest_134 ⟨by decide, by decide⟩) hA (fun _ h => h) [0, 1, 2, 3, 4, 5, 6, 7, 8] [9, 10, 11, 12, 13, 14, 15, 16, 17] (wr := [(hg, .inr (1, [.ref g0, .ref g1, .ref g2, .int (1 : Int32)])), (g0, .inl (cI, 4, .inl (fun _ => (1 : Int32)))), (g1, .inl (cI, 4, .inl (fun _ => (1 : Int32)))), (g2, .inl (cI, 4, .inl (fun _ => (1 : Int32)))), (ha, .inr (0, [.ref a0, .ref a1, .ref a2, .ref a3, .int (0 : Int32), .long (0 : Int64)])), (a0, .inl (cI, 41, .inl fa0b_38)), (a1, .inl (cI, 41, .inl fa1b_38)), (a3, .inl (cL, 41, .inr (.inl fa3b_38))), (hq, .inr (3, [.ref r0, .ref r1, .ref r2, .int (0 : Int32)]))]) rfl rfl (by decide) (by decide) [9, 10, 11, 12, 13, 14, 15, 16, 17, 0, 1, 2, 3, 4, 5, 6, 7, 8] (by decide) (fun _ => rfl) (fun u hu => ?_)
  obtain ⟨fp2_41, e9⟩ : ∃ z, z = u := ⟨_, rfl⟩; subst e9
  try dsimp only at hu ⊢
  refine g_i2l (v := (1 : Int64)) B dX5_digest_137 (by decide) ?_
  refine g_ladd (v := (-6758569501836831635 : Int64)) B dX5_digest_138 (by decide) ?_
  refine g_lstore_n (lv' := [(0, .ref hb), (1, .long (-6758569501836831635 : Int64)), (3, .int (4 : Int32))]) B dX5_digest_139 rfl (by decide) [1, 0, 2] rfl ?_
  refine g_lload_n B dX5_digest_140 1 rfl ?_
  refine g_ldc2 (v := (31 : Int64)) B dX5_digest_141 (List.mem_of_getElem? (i := 2) rfl) ?_
  refine g_lmul (v := (-6601469746136712909 : Int64)) B dX5_digest_144 (by decide) ?_
  refine g_aload_n B dX5_digest_145 0 rfl ?_
  refine g_iload_n B dX5_digest_146 2 rfl ?_
  refine g_callW (w2 := (fun (z9 : (Nat → Int32) × (Nat → Int32) × (Nat → Int32) × (Nat → Int64)) => [(hb, .inr (5, [.ref hp, .ref ht, .ref hg, .ref ha, .ref hq])), (hp, .inr (2, [.ref p0, .ref p1, .ref p2, .ref p3, .ref p4])), (p0, .inl (cI, 12, .inl (fun _ => (0 : Int32)))), (p1, .inl (cI, 12, .inl (fun _ => (0 : Int32)))), (p2, .inl (cI, 12, .inl (fun _ => (0 : Int32)))), (p3, .inl (cI, 24, .inl (fun _ => (-1 : Int32)))), (p4, .inl (cZ, 12, .inl (fun _ => (0 : Int32)))), (ht, .inr (4, [.ref t0, .int (1 : Int32), .int (1 : Int32), .long (2 : Int64)])), (t0, .inl (cI, 30, .inl z9.1)), (hg, .inr (1, [.ref g0, .ref g1, .ref g2, .int (1 : Int32)])), (g0, .inl (cI, 4, .inl (fun _ => (1 : Int32)))), (g1, .inl (cI, 4, .inl (fun _ => (1 : Int32)))), (g2, .inl (cI, 4, .inl (fun _ => (1 : Int32)))), (ha, .inr (0, [.ref a0, .ref a1, .ref a2, .ref a3, .int (0 : Int32), .long (0 : Int64)])), (a0, .inl (cI, 41, .inl z9.2.1)), (a1, .inl (cI, 41, .inl z9.2.2.1)), (a3, .inl (cL, 41, .inr (.inl z9.2.2.2))), (hq, .inr (3, [.ref r0, .ref r1, .ref r2, .int (0 : Int32)]))])) (g_runV (q0 := 0) (ci := 5) B hK rfl rfl (k_wouldDrop_v l (D := D) (cI := cI) (cL := cL) (cZ := cZ) hb hp ht hg ha hq p0 p1 p2 p3 p4 t0 fp2_41 (1 : Int32) (1 : Int32) (2 : Int64) a0 a1 a2 a3 fa0b_38 fa1b_38 fa3b_38 4 (by omega)) (gPw.pre (av := [.ref hb, .int (4 : Int32)]) (wc := [(hb, .inr (5, [.ref hp, .ref ht, .ref hg, .ref ha, .ref hq])), (hp, .inr (2, [.ref p0, .ref p1, .ref p2, .ref p3, .ref p4])), (p0, .inl (cI, 12, .inl (fun _ => (0 : Int32)))), (p1, .inl (cI, 12, .inl (fun _ => (0 : Int32)))), (p2, .inl (cI, 12, .inl (fun _ => (0 : Int32)))), (p3, .inl (cI, 24, .inl (fun _ => (-1 : Int32)))), (p4, .inl (cZ, 12, .inl (fun _ => (0 : Int32)))), (ht, .inr (4, [.ref t0, .int (1 : Int32), .int (1 : Int32), .long (2 : Int64)])), (t0, .inl (cI, 30, .inl fp2_41)), (ha, .inr (0, [.ref a0, .ref a1, .ref a2, .ref a3, .int (0 : Int32), .long (0 : Int64)])), (a0, .inl (cI, 41, .inl fa0b_38)), (a1, .inl (cI, 41, .inl fa1b_38)), (a3, .inl (cL, 41, .inr (.inl fa3b_38)))]) hK hN [0, 1, 2, 3, 4, 5, 6, 7, 8, 13, 14, 15, 16] rfl (by decide)) gX5_digest_X5_wouldDrop rfl rfl kd_X5_wouldDrop ⟨by decide, by decide⟩ (st := [.long (-6601469746136712909 : Int64)]) rfl (Nat.le_of_ble_eq_true rfl) dX5_digest_147 ⟨by decide, by decide⟩) hA (fun _ h => h) [0, 1, 2, 3, 4, 5, 6, 7, 8, 13, 14, 15, 16] [9, 10, 11, 12, 17] (wr := [(hg, .inr (1, [.ref g0, .ref g1, .ref g2, .int (1 : Int32)])), (g0, .inl (cI, 4, .inl (fun _ => (1 : Int32)))), (g1, .inl (cI, 4, .inl (fun _ => (1 : Int32)))), (g2, .inl (cI, 4, .inl (fun _ => (1 : Int32)))), (hq, .inr (3, [.ref r0, .ref r1, .ref r2, .int (0 : Int32)]))]) rfl rfl (by decide) (by decide) [5, 6, 7, 8, 9, 10, 11, 12, 13, 0, 1, 2, 3, 14, 15, 16, 17, 4] (by decide) (fun _ => rfl) (fun u hu => ?_)
  obtain ⟨fp2_42, fa0b_42, fa1b_42, fa3b_42⟩ := u
  try dsimp only at hu ⊢
  refine g_i2l (v := (0 : Int64)) B dX5_digest_150 (by decide) ?_
  refine g_ladd (v := (-6601469746136712909 : Int64)) B dX5_digest_151 (by decide) ?_
  refine g_lstore_n (lv' := [(0, .ref hb), (1, .long (-6601469746136712909 : Int64)), (3, .int (4 : Int32))]) B dX5_digest_152 rfl (by decide) [1, 0, 2] rfl ?_
  refine g_iinc (lv' := [(0, .ref hb), (1, .long (-6601469746136712909 : Int64)), (3, .int (5 : Int32))]) B dX5_digest_153 2 rfl (by decide) (by decide) [1, 2, 0] rfl ?_
  refine g_goto (tgt := 108) B dX5_digest_156 (by decide) ?_
  refine g_iload_n B dX5_digest_108 2 rfl ?_
  refine g_bipush (v := (9 : Int32)) B dX5_digest_109 (by decide) ?_
  refine g_icmp_gt (tgt := 159) B dX5_digest_111 (by decide) (fun c43 => absurd c43 (by decide)) (fun _ => ?_)
  refine g_lload_n B dX5_digest_114 1 rfl ?_
  refine g_ldc2 (v := (31 : Int64)) B dX5_digest_115 (List.mem_of_getElem? (i := 2) rfl) ?_
  refine g_lmul (v := (-1731377319433032403 : Int64)) B dX5_digest_118 (by decide) ?_
  refine g_aload_n B dX5_digest_119 0 rfl ?_
  refine g_iload_n B dX5_digest_120 2 rfl ?_
  refine g_callW (w2 := (fun (fp2_44 : Nat → Int32) => [(hb, .inr (5, [.ref hp, .ref ht, .ref hg, .ref ha, .ref hq])), (hp, .inr (2, [.ref p0, .ref p1, .ref p2, .ref p3, .ref p4])), (p0, .inl (cI, 12, .inl (fun _ => (0 : Int32)))), (p1, .inl (cI, 12, .inl (fun _ => (0 : Int32)))), (p2, .inl (cI, 12, .inl (fun _ => (0 : Int32)))), (p3, .inl (cI, 24, .inl (fun _ => (-1 : Int32)))), (p4, .inl (cZ, 12, .inl (fun _ => (0 : Int32)))), (ht, .inr (4, [.ref t0, .int (1 : Int32), .int (1 : Int32), .long (2 : Int64)])), (t0, .inl (cI, 30, .inl fp2_44)), (hg, .inr (1, [.ref g0, .ref g1, .ref g2, .int (1 : Int32)])), (g0, .inl (cI, 4, .inl (fun _ => (1 : Int32)))), (g1, .inl (cI, 4, .inl (fun _ => (1 : Int32)))), (g2, .inl (cI, 4, .inl (fun _ => (1 : Int32)))), (ha, .inr (0, [.ref a0, .ref a1, .ref a2, .ref a3, .int (0 : Int32), .long (0 : Int64)])), (a0, .inl (cI, 41, .inl fa0b_42)), (a1, .inl (cI, 41, .inl fa1b_42)), (a3, .inl (cL, 41, .inr (.inl fa3b_42))), (hq, .inr (3, [.ref r0, .ref r1, .ref r2, .int (0 : Int32)]))])) (g_runV (q0 := 0) (ci := 5) B hK rfl rfl (k_run_v l (D := D) (cI := cI) (cL := cL) (cZ := cZ) hb hp ht hg ha hq p0 p1 p2 p3 p4 t0 fp2_42 (1 : Int32) (1 : Int32) (2 : Int64) 5 (by omega)) (gPw.pre (av := [.ref hb, .int (5 : Int32)]) (wc := [(hb, .inr (5, [.ref hp, .ref ht, .ref hg, .ref ha, .ref hq])), (hp, .inr (2, [.ref p0, .ref p1, .ref p2, .ref p3, .ref p4])), (p0, .inl (cI, 12, .inl (fun _ => (0 : Int32)))), (p1, .inl (cI, 12, .inl (fun _ => (0 : Int32)))), (p2, .inl (cI, 12, .inl (fun _ => (0 : Int32)))), (p3, .inl (cI, 24, .inl (fun _ => (-1 : Int32)))), (p4, .inl (cZ, 12, .inl (fun _ => (0 : Int32)))), (ht, .inr (4, [.ref t0, .int (1 : Int32), .int (1 : Int32), .long (2 : Int64)])), (t0, .inl (cI, 30, .inl fp2_42))]) hK hN [0, 1, 2, 3, 4, 5, 6, 7, 8] rfl (by decide)) gX5_digest_X5_run rfl rfl kd_X5_run ⟨by decide, by decide⟩ (st := [.long (-1731377319433032403 : Int64)]) rfl (Nat.le_of_ble_eq_true rfl) dX5_digest_121 ⟨by decide, by decide⟩) hA (fun _ h => h) [0, 1, 2, 3, 4, 5, 6, 7, 8] [9, 10, 11, 12, 13, 14, 15, 16, 17] (wr := [(hg, .inr (1, [.ref g0, .ref g1, .ref g2, .int (1 : Int32)])), (g0, .inl (cI, 4, .inl (fun _ => (1 : Int32)))), (g1, .inl (cI, 4, .inl (fun _ => (1 : Int32)))), (g2, .inl (cI, 4, .inl (fun _ => (1 : Int32)))), (ha, .inr (0, [.ref a0, .ref a1, .ref a2, .ref a3, .int (0 : Int32), .long (0 : Int64)])), (a0, .inl (cI, 41, .inl fa0b_42)), (a1, .inl (cI, 41, .inl fa1b_42)), (a3, .inl (cL, 41, .inr (.inl fa3b_42))), (hq, .inr (3, [.ref r0, .ref r1, .ref r2, .int (0 : Int32)]))]) rfl rfl (by decide) (by decide) [9, 10, 11, 12, 13, 14, 15, 16, 17, 0, 1, 2, 3, 4, 5, 6, 7, 8] (by decide) (fun _ => rfl) (fun u hu => ?_)
  obtain ⟨fp2_44, e9⟩ : ∃ z, z = u := ⟨_, rfl⟩; subst e9
  try dsimp only at hu ⊢
  refine g_i2l (v := (1 : Int64)) B dX5_digest_124 (by decide) ?_
  refine g_ladd (v := (-1731377319433032402 : Int64)) B dX5_digest_125 (by decide) ?_
  refine g_lstore_n (lv' := [(0, .ref hb), (1, .long (-1731377319433032402 : Int64)), (3, .int (5 : Int32))]) B dX5_digest_126 rfl (by decide) [1, 0, 2] rfl ?_
  refine g_lload_n B dX5_digest_127 1 rfl ?_
  refine g_ldc2 (v := (31 : Int64)) B dX5_digest_128 (List.mem_of_getElem? (i := 2) rfl) ?_
  refine g_lmul (v := (1667535318704650386 : Int64)) B dX5_digest_131 (by decide) ?_
  refine g_aload_n B dX5_digest_132 0 rfl ?_
  refine g_iload_n B dX5_digest_133 2 rfl ?_
  refine g_callW (w2 := (fun (fp2_45 : Nat → Int32) => [(hb, .inr (5, [.ref hp, .ref ht, .ref hg, .ref ha, .ref hq])), (hp, .inr (2, [.ref p0, .ref p1, .ref p2, .ref p3, .ref p4])), (p0, .inl (cI, 12, .inl (fun _ => (0 : Int32)))), (p1, .inl (cI, 12, .inl (fun _ => (0 : Int32)))), (p2, .inl (cI, 12, .inl (fun _ => (0 : Int32)))), (p3, .inl (cI, 24, .inl (fun _ => (-1 : Int32)))), (p4, .inl (cZ, 12, .inl (fun _ => (0 : Int32)))), (ht, .inr (4, [.ref t0, .int (1 : Int32), .int (1 : Int32), .long (2 : Int64)])), (t0, .inl (cI, 30, .inl fp2_45)), (hg, .inr (1, [.ref g0, .ref g1, .ref g2, .int (1 : Int32)])), (g0, .inl (cI, 4, .inl (fun _ => (1 : Int32)))), (g1, .inl (cI, 4, .inl (fun _ => (1 : Int32)))), (g2, .inl (cI, 4, .inl (fun _ => (1 : Int32)))), (ha, .inr (0, [.ref a0, .ref a1, .ref a2, .ref a3, .int (0 : Int32), .long (0 : Int64)])), (a0, .inl (cI, 41, .inl fa0b_42)), (a1, .inl (cI, 41, .inl fa1b_42)), (a3, .inl (cL, 41, .inr (.inl fa3b_42))), (hq, .inr (3, [.ref r0, .ref r1, .ref r2, .int (0 : Int32)]))])) (g_runV (q0 := 0) (ci := 5) B hK rfl rfl (k_covers_v l (D := D) (cI := cI) (cL := cL) (cZ := cZ) hb hp ht hg ha hq p0 p1 p2 p3 p4 t0 fp2_44 (1 : Int32) (1 : Int32) (2 : Int64) 5 (by omega)) (gPw.pre (av := [.ref hb, .int (5 : Int32)]) (wc := [(hb, .inr (5, [.ref hp, .ref ht, .ref hg, .ref ha, .ref hq])), (hp, .inr (2, [.ref p0, .ref p1, .ref p2, .ref p3, .ref p4])), (p0, .inl (cI, 12, .inl (fun _ => (0 : Int32)))), (p1, .inl (cI, 12, .inl (fun _ => (0 : Int32)))), (p2, .inl (cI, 12, .inl (fun _ => (0 : Int32)))), (p3, .inl (cI, 24, .inl (fun _ => (-1 : Int32)))), (p4, .inl (cZ, 12, .inl (fun _ => (0 : Int32)))), (ht, .inr (4, [.ref t0, .int (1 : Int32), .int (1 : Int32), .long (2 : Int64)])), (t0, .inl (cI, 30, .inl fp2_44))]) hK hN [0, 1, 2, 3, 4, 5, 6, 7, 8] rfl (by decide)) gX5_digest_X5_covers rfl rfl kd_X5_covers ⟨by decide, by decide⟩ (st := [.long (1667535318704650386 : Int64)]) rfl (Nat.le_of_ble_eq_true rfl) dX5_digest_134 ⟨by decide, by decide⟩) hA (fun _ h => h) [0, 1, 2, 3, 4, 5, 6, 7, 8] [9, 10, 11, 12, 13, 14, 15, 16, 17] (wr := [(hg, .inr (1, [.ref g0, .ref g1, .ref g2, .int (1 : Int32)])), (g0, .inl (cI, 4, .inl (fun _ => (1 : Int32)))), (g1, .inl (cI, 4, .inl (fun _ => (1 : Int32)))), (g2, .inl (cI, 4, .inl (fun _ => (1 : Int32)))), (ha, .inr (0, [.ref a0, .ref a1, .ref a2, .ref a3, .int (0 : Int32), .long (0 : Int64)])), (a0, .inl (cI, 41, .inl fa0b_42)), (a1, .inl (cI, 41, .inl fa1b_42)), (a3, .inl (cL, 41, .inr (.inl fa3b_42))), (hq, .inr (3, [.ref r0, .ref r1, .ref r2, .int (0 : Int32)]))]) rfl rfl (by decide) (by decide) [9, 10, 11, 12, 13, 14, 15, 16, 17, 0, 1, 2, 3, 4, 5, 6, 7, 8] (by decide) (fun _ => rfl) (fun u hu => ?_)
  obtain ⟨fp2_45, e9⟩ : ∃ z, z = u := ⟨_, rfl⟩; subst e9
  try dsimp only at hu ⊢
  refine g_i2l (v := (1 : Int64)) B dX5_digest_137 (by decide) ?_
  refine g_ladd (v := (1667535318704650387 : Int64)) B dX5_digest_138 (by decide) ?_
  refine g_lstore_n (lv' := [(0, .ref hb), (1, .long (1667535318704650387 : Int64)), (3, .int (5 : Int32))]) B dX5_digest_139 rfl (by decide) [1, 0, 2] rfl ?_
  refine g_lload_n B dX5_digest_140 1 rfl ?_
  refine g_ldc2 (v := (31 : Int64)) B dX5_digest_141 (List.mem_of_getElem? (i := 2) rfl) ?_
  refine g_lmul (v := (-3646637341284492851 : Int64)) B dX5_digest_144 (by decide) ?_
  refine g_aload_n B dX5_digest_145 0 rfl ?_
  refine g_iload_n B dX5_digest_146 2 rfl ?_
  refine g_callW (w2 := (fun (z9 : (Nat → Int32) × (Nat → Int32) × (Nat → Int32) × (Nat → Int64)) => [(hb, .inr (5, [.ref hp, .ref ht, .ref hg, .ref ha, .ref hq])), (hp, .inr (2, [.ref p0, .ref p1, .ref p2, .ref p3, .ref p4])), (p0, .inl (cI, 12, .inl (fun _ => (0 : Int32)))), (p1, .inl (cI, 12, .inl (fun _ => (0 : Int32)))), (p2, .inl (cI, 12, .inl (fun _ => (0 : Int32)))), (p3, .inl (cI, 24, .inl (fun _ => (-1 : Int32)))), (p4, .inl (cZ, 12, .inl (fun _ => (0 : Int32)))), (ht, .inr (4, [.ref t0, .int (1 : Int32), .int (1 : Int32), .long (2 : Int64)])), (t0, .inl (cI, 30, .inl z9.1)), (hg, .inr (1, [.ref g0, .ref g1, .ref g2, .int (1 : Int32)])), (g0, .inl (cI, 4, .inl (fun _ => (1 : Int32)))), (g1, .inl (cI, 4, .inl (fun _ => (1 : Int32)))), (g2, .inl (cI, 4, .inl (fun _ => (1 : Int32)))), (ha, .inr (0, [.ref a0, .ref a1, .ref a2, .ref a3, .int (0 : Int32), .long (0 : Int64)])), (a0, .inl (cI, 41, .inl z9.2.1)), (a1, .inl (cI, 41, .inl z9.2.2.1)), (a3, .inl (cL, 41, .inr (.inl z9.2.2.2))), (hq, .inr (3, [.ref r0, .ref r1, .ref r2, .int (0 : Int32)]))])) (g_runV (q0 := 0) (ci := 5) B hK rfl rfl (k_wouldDrop_v l (D := D) (cI := cI) (cL := cL) (cZ := cZ) hb hp ht hg ha hq p0 p1 p2 p3 p4 t0 fp2_45 (1 : Int32) (1 : Int32) (2 : Int64) a0 a1 a2 a3 fa0b_42 fa1b_42 fa3b_42 5 (by omega)) (gPw.pre (av := [.ref hb, .int (5 : Int32)]) (wc := [(hb, .inr (5, [.ref hp, .ref ht, .ref hg, .ref ha, .ref hq])), (hp, .inr (2, [.ref p0, .ref p1, .ref p2, .ref p3, .ref p4])), (p0, .inl (cI, 12, .inl (fun _ => (0 : Int32)))), (p1, .inl (cI, 12, .inl (fun _ => (0 : Int32)))), (p2, .inl (cI, 12, .inl (fun _ => (0 : Int32)))), (p3, .inl (cI, 24, .inl (fun _ => (-1 : Int32)))), (p4, .inl (cZ, 12, .inl (fun _ => (0 : Int32)))), (ht, .inr (4, [.ref t0, .int (1 : Int32), .int (1 : Int32), .long (2 : Int64)])), (t0, .inl (cI, 30, .inl fp2_45)), (ha, .inr (0, [.ref a0, .ref a1, .ref a2, .ref a3, .int (0 : Int32), .long (0 : Int64)])), (a0, .inl (cI, 41, .inl fa0b_42)), (a1, .inl (cI, 41, .inl fa1b_42)), (a3, .inl (cL, 41, .inr (.inl fa3b_42)))]) hK hN [0, 1, 2, 3, 4, 5, 6, 7, 8, 13, 14, 15, 16] rfl (by decide)) gX5_digest_X5_wouldDrop rfl rfl kd_X5_wouldDrop ⟨by decide, by decide⟩ (st := [.long (-3646637341284492851 : Int64)]) rfl (Nat.le_of_ble_eq_true rfl) dX5_digest_147 ⟨by decide, by decide⟩) hA (fun _ h => h) [0, 1, 2, 3, 4, 5, 6, 7, 8, 13, 14, 15, 16] [9, 10, 11, 12, 17] (wr := [(hg, .inr (1, [.ref g0, .ref g1, .ref g2, .int (1 : Int32)])), (g0, .inl (cI, 4, .inl (fun _ => (1 : Int32)))), (g1, .inl (cI, 4, .inl (fun _ => (1 : Int32)))), (g2, .inl (cI, 4, .inl (fun _ => (1 : Int32)))), (hq, .inr (3, [.ref r0, .ref r1, .ref r2, .int (0 : Int32)]))]) rfl rfl (by decide) (by decide) [5, 6, 7, 8, 9, 10, 11, 12, 13, 0, 1, 2, 3, 14, 15, 16, 17, 4] (by decide) (fun _ => rfl) (fun u hu => ?_)
  obtain ⟨fp2_46, fa0b_46, fa1b_46, fa3b_46⟩ := u
  try dsimp only at hu ⊢
  refine g_i2l (v := (0 : Int64)) B dX5_digest_150 (by decide) ?_
  refine g_ladd (v := (-3646637341284492851 : Int64)) B dX5_digest_151 (by decide) ?_
  refine g_lstore_n (lv' := [(0, .ref hb), (1, .long (-3646637341284492851 : Int64)), (3, .int (5 : Int32))]) B dX5_digest_152 rfl (by decide) [1, 0, 2] rfl ?_
  refine g_iinc (lv' := [(0, .ref hb), (1, .long (-3646637341284492851 : Int64)), (3, .int (6 : Int32))]) B dX5_digest_153 2 rfl (by decide) (by decide) [1, 2, 0] rfl ?_
  refine g_goto (tgt := 108) B dX5_digest_156 (by decide) ?_
  refine g_iload_n B dX5_digest_108 2 rfl ?_
  refine g_bipush (v := (9 : Int32)) B dX5_digest_109 (by decide) ?_
  refine g_icmp_gt (tgt := 159) B dX5_digest_111 (by decide) (fun c47 => absurd c47 (by decide)) (fun _ => ?_)
  refine g_lload_n B dX5_digest_114 1 rfl ?_
  refine g_ldc2 (v := (31 : Int64)) B dX5_digest_115 (List.mem_of_getElem? (i := 2) rfl) ?_
  refine g_lmul (v := (-2365293137561968685 : Int64)) B dX5_digest_118 (by decide) ?_
  refine g_aload_n B dX5_digest_119 0 rfl ?_
  refine g_iload_n B dX5_digest_120 2 rfl ?_
  refine g_callW (w2 := (fun (fp2_48 : Nat → Int32) => [(hb, .inr (5, [.ref hp, .ref ht, .ref hg, .ref ha, .ref hq])), (hp, .inr (2, [.ref p0, .ref p1, .ref p2, .ref p3, .ref p4])), (p0, .inl (cI, 12, .inl (fun _ => (0 : Int32)))), (p1, .inl (cI, 12, .inl (fun _ => (0 : Int32)))), (p2, .inl (cI, 12, .inl (fun _ => (0 : Int32)))), (p3, .inl (cI, 24, .inl (fun _ => (-1 : Int32)))), (p4, .inl (cZ, 12, .inl (fun _ => (0 : Int32)))), (ht, .inr (4, [.ref t0, .int (1 : Int32), .int (1 : Int32), .long (2 : Int64)])), (t0, .inl (cI, 30, .inl fp2_48)), (hg, .inr (1, [.ref g0, .ref g1, .ref g2, .int (1 : Int32)])), (g0, .inl (cI, 4, .inl (fun _ => (1 : Int32)))), (g1, .inl (cI, 4, .inl (fun _ => (1 : Int32)))), (g2, .inl (cI, 4, .inl (fun _ => (1 : Int32)))), (ha, .inr (0, [.ref a0, .ref a1, .ref a2, .ref a3, .int (0 : Int32), .long (0 : Int64)])), (a0, .inl (cI, 41, .inl fa0b_46)), (a1, .inl (cI, 41, .inl fa1b_46)), (a3, .inl (cL, 41, .inr (.inl fa3b_46))), (hq, .inr (3, [.ref r0, .ref r1, .ref r2, .int (0 : Int32)]))])) (g_runV (q0 := 0) (ci := 5) B hK rfl rfl (k_run_v l (D := D) (cI := cI) (cL := cL) (cZ := cZ) hb hp ht hg ha hq p0 p1 p2 p3 p4 t0 fp2_46 (1 : Int32) (1 : Int32) (2 : Int64) 6 (by omega)) (gPw.pre (av := [.ref hb, .int (6 : Int32)]) (wc := [(hb, .inr (5, [.ref hp, .ref ht, .ref hg, .ref ha, .ref hq])), (hp, .inr (2, [.ref p0, .ref p1, .ref p2, .ref p3, .ref p4])), (p0, .inl (cI, 12, .inl (fun _ => (0 : Int32)))), (p1, .inl (cI, 12, .inl (fun _ => (0 : Int32)))), (p2, .inl (cI, 12, .inl (fun _ => (0 : Int32)))), (p3, .inl (cI, 24, .inl (fun _ => (-1 : Int32)))), (p4, .inl (cZ, 12, .inl (fun _ => (0 : Int32)))), (ht, .inr (4, [.ref t0, .int (1 : Int32), .int (1 : Int32), .long (2 : Int64)])), (t0, .inl (cI, 30, .inl fp2_46))]) hK hN [0, 1, 2, 3, 4, 5, 6, 7, 8] rfl (by decide)) gX5_digest_X5_run rfl rfl kd_X5_run ⟨by decide, by decide⟩ (st := [.long (-2365293137561968685 : Int64)]) rfl (Nat.le_of_ble_eq_true rfl) dX5_digest_121 ⟨by decide, by decide⟩) hA (fun _ h => h) [0, 1, 2, 3, 4, 5, 6, 7, 8] [9, 10, 11, 12, 13, 14, 15, 16, 17] (wr := [(hg, .inr (1, [.ref g0, .ref g1, .ref g2, .int (1 : Int32)])), (g0, .inl (cI, 4, .inl (fun _ => (1 : Int32)))), (g1, .inl (cI, 4, .inl (fun _ => (1 : Int32)))), (g2, .inl (cI, 4, .inl (fun _ => (1 : Int32)))), (ha, .inr (0, [.ref a0, .ref a1, .ref a2, .ref a3, .int (0 : Int32), .long (0 : Int64)])), (a0, .inl (cI, 41, .inl fa0b_46)), (a1, .inl (cI, 41, .inl fa1b_46)), (a3, .inl (cL, 41, .inr (.inl fa3b_46))), (hq, .inr (3, [.ref r0, .ref r1, .ref r2, .int (0 : Int32)]))]) rfl rfl (by decide) (by decide) [9, 10, 11, 12, 13, 14, 15, 16, 17, 0, 1, 2, 3, 4, 5, 6, 7, 8] (by decide) (fun _ => rfl) (fun u hu => ?_)
  obtain ⟨fp2_48, e9⟩ : ∃ z, z = u := ⟨_, rfl⟩; subst e9
  try dsimp only at hu ⊢
  refine g_i2l (v := (1 : Int64)) B dX5_digest_124 (by decide) ?_
  refine g_ladd (v := (-2365293137561968684 : Int64)) B dX5_digest_125 (by decide) ?_
  refine g_lstore_n (lv' := [(0, .ref hb), (1, .long (-2365293137561968684 : Int64)), (3, .int (6 : Int32))]) B dX5_digest_126 rfl (by decide) [1, 0, 2] rfl ?_
  refine g_lload_n B dX5_digest_127 1 rfl ?_
  refine g_ldc2 (v := (31 : Int64)) B dX5_digest_128 (List.mem_of_getElem? (i := 2) rfl) ?_
  refine g_lmul (v := (462889030417177260 : Int64)) B dX5_digest_131 (by decide) ?_
  refine g_aload_n B dX5_digest_132 0 rfl ?_
  refine g_iload_n B dX5_digest_133 2 rfl ?_
  refine g_callW (w2 := (fun (fp2_49 : Nat → Int32) => [(hb, .inr (5, [.ref hp, .ref ht, .ref hg, .ref ha, .ref hq])), (hp, .inr (2, [.ref p0, .ref p1, .ref p2, .ref p3, .ref p4])), (p0, .inl (cI, 12, .inl (fun _ => (0 : Int32)))), (p1, .inl (cI, 12, .inl (fun _ => (0 : Int32)))), (p2, .inl (cI, 12, .inl (fun _ => (0 : Int32)))), (p3, .inl (cI, 24, .inl (fun _ => (-1 : Int32)))), (p4, .inl (cZ, 12, .inl (fun _ => (0 : Int32)))), (ht, .inr (4, [.ref t0, .int (1 : Int32), .int (1 : Int32), .long (2 : Int64)])), (t0, .inl (cI, 30, .inl fp2_49)), (hg, .inr (1, [.ref g0, .ref g1, .ref g2, .int (1 : Int32)])), (g0, .inl (cI, 4, .inl (fun _ => (1 : Int32)))), (g1, .inl (cI, 4, .inl (fun _ => (1 : Int32)))), (g2, .inl (cI, 4, .inl (fun _ => (1 : Int32)))), (ha, .inr (0, [.ref a0, .ref a1, .ref a2, .ref a3, .int (0 : Int32), .long (0 : Int64)])), (a0, .inl (cI, 41, .inl fa0b_46)), (a1, .inl (cI, 41, .inl fa1b_46)), (a3, .inl (cL, 41, .inr (.inl fa3b_46))), (hq, .inr (3, [.ref r0, .ref r1, .ref r2, .int (0 : Int32)]))])) (g_runV (q0 := 0) (ci := 5) B hK rfl rfl (k_covers_v l (D := D) (cI := cI) (cL := cL) (cZ := cZ) hb hp ht hg ha hq p0 p1 p2 p3 p4 t0 fp2_48 (1 : Int32) (1 : Int32) (2 : Int64) 6 (by omega)) (gPw.pre (av := [.ref hb, .int (6 : Int32)]) (wc := [(hb, .inr (5, [.ref hp, .ref ht, .ref hg, .ref ha, .ref hq])), (hp, .inr (2, [.ref p0, .ref p1, .ref p2, .ref p3, .ref p4])), (p0, .inl (cI, 12, .inl (fun _ => (0 : Int32)))), (p1, .inl (cI, 12, .inl (fun _ => (0 : Int32)))), (p2, .inl (cI, 12, .inl (fun _ => (0 : Int32)))), (p3, .inl (cI, 24, .inl (fun _ => (-1 : Int32)))), (p4, .inl (cZ, 12, .inl (fun _ => (0 : Int32)))), (ht, .inr (4, [.ref t0, .int (1 : Int32), .int (1 : Int32), .long (2 : Int64)])), (t0, .inl (cI, 30, .inl fp2_48))]) hK hN [0, 1, 2, 3, 4, 5, 6, 7, 8] rfl (by decide)) gX5_digest_X5_covers rfl rfl kd_X5_covers ⟨by decide, by decide⟩ (st := [.long (462889030417177260 : Int64)]) rfl (Nat.le_of_ble_eq_true rfl) dX5_digest_134 ⟨by decide, by decide⟩) hA (fun _ h => h) [0, 1, 2, 3, 4, 5, 6, 7, 8] [9, 10, 11, 12, 13, 14, 15, 16, 17] (wr := [(hg, .inr (1, [.ref g0, .ref g1, .ref g2, .int (1 : Int32)])), (g0, .inl (cI, 4, .inl (fun _ => (1 : Int32)))), (g1, .inl (cI, 4, .inl (fun _ => (1 : Int32)))), (g2, .inl (cI, 4, .inl (fun _ => (1 : Int32)))), (ha, .inr (0, [.ref a0, .ref a1, .ref a2, .ref a3, .int (0 : Int32), .long (0 : Int64)])), (a0, .inl (cI, 41, .inl fa0b_46)), (a1, .inl (cI, 41, .inl fa1b_46)), (a3, .inl (cL, 41, .inr (.inl fa3b_46))), (hq, .inr (3, [.ref r0, .ref r1, .ref r2, .int (0 : Int32)]))]) rfl rfl (by decide) (by decide) [9, 10, 11, 12, 13, 14, 15, 16, 17, 0, 1, 2, 3, 4, 5, 6, 7, 8] (by decide) (fun _ => rfl) (fun u hu => ?_)
  obtain ⟨fp2_49, e9⟩ : ∃ z, z = u := ⟨_, rfl⟩; subst e9
  try dsimp only at hu ⊢
  refine g_i2l (v := (1 : Int64)) B dX5_digest_137 (by decide) ?_
  refine g_ladd (v := (462889030417177261 : Int64)) B dX5_digest_138 (by decide) ?_
  refine g_lstore_n (lv' := [(0, .ref hb), (1, .long (462889030417177261 : Int64)), (3, .int (6 : Int32))]) B dX5_digest_139 rfl (by decide) [1, 0, 2] rfl ?_
  refine g_lload_n B dX5_digest_140 1 rfl ?_
  refine g_ldc2 (v := (31 : Int64)) B dX5_digest_141 (List.mem_of_getElem? (i := 2) rfl) ?_
  refine g_lmul (v := (-4097184130777056525 : Int64)) B dX5_digest_144 (by decide) ?_
  refine g_aload_n B dX5_digest_145 0 rfl ?_
  refine g_iload_n B dX5_digest_146 2 rfl ?_
  refine g_callW (w2 := (fun (z9 : (Nat → Int32) × (Nat → Int32) × (Nat → Int32) × (Nat → Int64)) => [(hb, .inr (5, [.ref hp, .ref ht, .ref hg, .ref ha, .ref hq])), (hp, .inr (2, [.ref p0, .ref p1, .ref p2, .ref p3, .ref p4])), (p0, .inl (cI, 12, .inl (fun _ => (0 : Int32)))), (p1, .inl (cI, 12, .inl (fun _ => (0 : Int32)))), (p2, .inl (cI, 12, .inl (fun _ => (0 : Int32)))), (p3, .inl (cI, 24, .inl (fun _ => (-1 : Int32)))), (p4, .inl (cZ, 12, .inl (fun _ => (0 : Int32)))), (ht, .inr (4, [.ref t0, .int (1 : Int32), .int (1 : Int32), .long (2 : Int64)])), (t0, .inl (cI, 30, .inl z9.1)), (hg, .inr (1, [.ref g0, .ref g1, .ref g2, .int (1 : Int32)])), (g0, .inl (cI, 4, .inl (fun _ => (1 : Int32)))), (g1, .inl (cI, 4, .inl (fun _ => (1 : Int32)))), (g2, .inl (cI, 4, .inl (fun _ => (1 : Int32)))), (ha, .inr (0, [.ref a0, .ref a1, .ref a2, .ref a3, .int (0 : Int32), .long (0 : Int64)])), (a0, .inl (cI, 41, .inl z9.2.1)), (a1, .inl (cI, 41, .inl z9.2.2.1)), (a3, .inl (cL, 41, .inr (.inl z9.2.2.2))), (hq, .inr (3, [.ref r0, .ref r1, .ref r2, .int (0 : Int32)]))])) (g_runV (q0 := 0) (ci := 5) B hK rfl rfl (k_wouldDrop_v l (D := D) (cI := cI) (cL := cL) (cZ := cZ) hb hp ht hg ha hq p0 p1 p2 p3 p4 t0 fp2_49 (1 : Int32) (1 : Int32) (2 : Int64) a0 a1 a2 a3 fa0b_46 fa1b_46 fa3b_46 6 (by omega)) (gPw.pre (av := [.ref hb, .int (6 : Int32)]) (wc := [(hb, .inr (5, [.ref hp, .ref ht, .ref hg, .ref ha, .ref hq])), (hp, .inr (2, [.ref p0, .ref p1, .ref p2, .ref p3, .ref p4])), (p0, .inl (cI, 12, .inl (fun _ => (0 : Int32)))), (p1, .inl (cI, 12, .inl (fun _ => (0 : Int32)))), (p2, .inl (cI, 12, .inl (fun _ => (0 : Int32)))), (p3, .inl (cI, 24, .inl (fun _ => (-1 : Int32)))), (p4, .inl (cZ, 12, .inl (fun _ => (0 : Int32)))), (ht, .inr (4, [.ref t0, .int (1 : Int32), .int (1 : Int32), .long (2 : Int64)])), (t0, .inl (cI, 30, .inl fp2_49)), (ha, .inr (0, [.ref a0, .ref a1, .ref a2, .ref a3, .int (0 : Int32), .long (0 : Int64)])), (a0, .inl (cI, 41, .inl fa0b_46)), (a1, .inl (cI, 41, .inl fa1b_46)), (a3, .inl (cL, 41, .inr (.inl fa3b_46)))]) hK hN [0, 1, 2, 3, 4, 5, 6, 7, 8, 13, 14, 15, 16] rfl (by decide)) gX5_digest_X5_wouldDrop rfl rfl kd_X5_wouldDrop ⟨by decide, by decide⟩ (st := [.long (-4097184130777056525 : Int64)]) rfl (Nat.le_of_ble_eq_true rfl) dX5_digest_147 ⟨by decide, by decide⟩) hA (fun _ h => h) [0, 1, 2, 3, 4, 5, 6, 7, 8, 13, 14, 15, 16] [9, 10, 11, 12, 17] (wr := [(hg, .inr (1, [.ref g0, .ref g1, .ref g2, .int (1 : Int32)])), (g0, .inl (cI, 4, .inl (fun _ => (1 : Int32)))), (g1, .inl (cI, 4, .inl (fun _ => (1 : Int32)))), (g2, .inl (cI, 4, .inl (fun _ => (1 : Int32)))), (hq, .inr (3, [.ref r0, .ref r1, .ref r2, .int (0 : Int32)]))]) rfl rfl (by decide) (by decide) [5, 6, 7, 8, 9, 10, 11, 12, 13, 0, 1, 2, 3, 14, 15, 16, 17, 4] (by decide) (fun _ => rfl) (fun u hu => ?_)
  obtain ⟨fp2_50, fa0b_50, fa1b_50, fa3b_50⟩ := u
  try dsimp only at hu ⊢
  refine g_i2l (v := (0 : Int64)) B dX5_digest_150 (by decide) ?_
  refine g_ladd (v := (-4097184130777056525 : Int64)) B dX5_digest_151 (by decide) ?_
  refine g_lstore_n (lv' := [(0, .ref hb), (1, .long (-4097184130777056525 : Int64)), (3, .int (6 : Int32))]) B dX5_digest_152 rfl (by decide) [1, 0, 2] rfl ?_
  refine g_iinc (lv' := [(0, .ref hb), (1, .long (-4097184130777056525 : Int64)), (3, .int (7 : Int32))]) B dX5_digest_153 2 rfl (by decide) (by decide) [1, 2, 0] rfl ?_
  refine g_goto (tgt := 108) B dX5_digest_156 (by decide) ?_
  refine g_iload_n B dX5_digest_108 2 rfl ?_
  refine g_bipush (v := (9 : Int32)) B dX5_digest_109 (by decide) ?_
  refine g_icmp_gt (tgt := 159) B dX5_digest_111 (by decide) (fun c51 => absurd c51 (by decide)) (fun _ => ?_)
  refine g_lload_n B dX5_digest_114 1 rfl ?_
  refine g_ldc2 (v := (31 : Int64)) B dX5_digest_115 (List.mem_of_getElem? (i := 2) rfl) ?_
  refine g_lmul (v := (2114500461878109037 : Int64)) B dX5_digest_118 (by decide) ?_
  refine g_aload_n B dX5_digest_119 0 rfl ?_
  refine g_iload_n B dX5_digest_120 2 rfl ?_
  refine g_callW (w2 := (fun (fp2_52 : Nat → Int32) => [(hb, .inr (5, [.ref hp, .ref ht, .ref hg, .ref ha, .ref hq])), (hp, .inr (2, [.ref p0, .ref p1, .ref p2, .ref p3, .ref p4])), (p0, .inl (cI, 12, .inl (fun _ => (0 : Int32)))), (p1, .inl (cI, 12, .inl (fun _ => (0 : Int32)))), (p2, .inl (cI, 12, .inl (fun _ => (0 : Int32)))), (p3, .inl (cI, 24, .inl (fun _ => (-1 : Int32)))), (p4, .inl (cZ, 12, .inl (fun _ => (0 : Int32)))), (ht, .inr (4, [.ref t0, .int (1 : Int32), .int (1 : Int32), .long (2 : Int64)])), (t0, .inl (cI, 30, .inl fp2_52)), (hg, .inr (1, [.ref g0, .ref g1, .ref g2, .int (1 : Int32)])), (g0, .inl (cI, 4, .inl (fun _ => (1 : Int32)))), (g1, .inl (cI, 4, .inl (fun _ => (1 : Int32)))), (g2, .inl (cI, 4, .inl (fun _ => (1 : Int32)))), (ha, .inr (0, [.ref a0, .ref a1, .ref a2, .ref a3, .int (0 : Int32), .long (0 : Int64)])), (a0, .inl (cI, 41, .inl fa0b_50)), (a1, .inl (cI, 41, .inl fa1b_50)), (a3, .inl (cL, 41, .inr (.inl fa3b_50))), (hq, .inr (3, [.ref r0, .ref r1, .ref r2, .int (0 : Int32)]))])) (g_runV (q0 := 0) (ci := 5) B hK rfl rfl (k_run_v l (D := D) (cI := cI) (cL := cL) (cZ := cZ) hb hp ht hg ha hq p0 p1 p2 p3 p4 t0 fp2_50 (1 : Int32) (1 : Int32) (2 : Int64) 7 (by omega)) (gPw.pre (av := [.ref hb, .int (7 : Int32)]) (wc := [(hb, .inr (5, [.ref hp, .ref ht, .ref hg, .ref ha, .ref hq])), (hp, .inr (2, [.ref p0, .ref p1, .ref p2, .ref p3, .ref p4])), (p0, .inl (cI, 12, .inl (fun _ => (0 : Int32)))), (p1, .inl (cI, 12, .inl (fun _ => (0 : Int32)))), (p2, .inl (cI, 12, .inl (fun _ => (0 : Int32)))), (p3, .inl (cI, 24, .inl (fun _ => (-1 : Int32)))), (p4, .inl (cZ, 12, .inl (fun _ => (0 : Int32)))), (ht, .inr (4, [.ref t0, .int (1 : Int32), .int (1 : Int32), .long (2 : Int64)])), (t0, .inl (cI, 30, .inl fp2_50))]) hK hN [0, 1, 2, 3, 4, 5, 6, 7, 8] rfl (by decide)) gX5_digest_X5_run rfl rfl kd_X5_run ⟨by decide, by decide⟩ (st := [.long (2114500461878109037 : Int64)]) rfl (Nat.le_of_ble_eq_true rfl) dX5_digest_121 ⟨by decide, by decide⟩) hA (fun _ h => h) [0, 1, 2, 3, 4, 5, 6, 7, 8] [9, 10, 11, 12, 13, 14, 15, 16, 17] (wr := [(hg, .inr (1, [.ref g0, .ref g1, .ref g2, .int (1 : Int32)])), (g0, .inl (cI, 4, .inl (fun _ => (1 : Int32)))), (g1, .inl (cI, 4, .inl (fun _ => (1 : Int32)))), (g2, .inl (cI, 4, .inl (fun _ => (1 : Int32)))), (ha, .inr (0, [.ref a0, .ref a1, .ref a2, .ref a3, .int (0 : Int32), .long (0 : Int64)])), (a0, .inl (cI, 41, .inl fa0b_50)), (a1, .inl (cI, 41, .inl fa1b_50)), (a3, .inl (cL, 41, .inr (.inl fa3b_50))), (hq, .inr (3, [.ref r0, .ref r1, .ref r2, .int (0 : Int32)]))]) rfl rfl (by decide) (by decide) [9, 10, 11, 12, 13, 14, 15, 16, 17, 0, 1, 2, 3, 4, 5, 6, 7, 8] (by decide) (fun _ => rfl) (fun u hu => ?_)
  obtain ⟨fp2_52, e9⟩ : ∃ z, z = u := ⟨_, rfl⟩; subst e9
  try dsimp only at hu ⊢
  refine g_i2l (v := (1 : Int64)) B dX5_digest_124 (by decide) ?_
  refine g_ladd (v := (2114500461878109038 : Int64)) B dX5_digest_125 (by decide) ?_
  refine g_lstore_n (lv' := [(0, .ref hb), (1, .long (2114500461878109038 : Int64)), (3, .int (7 : Int32))]) B dX5_digest_126 rfl (by decide) [1, 0, 2] rfl ?_
  refine g_lload_n B dX5_digest_127 1 rfl ?_
  refine g_ldc2 (v := (31 : Int64)) B dX5_digest_128 (List.mem_of_getElem? (i := 2) rfl) ?_
  refine g_lmul (v := (-8237461976616826286 : Int64)) B dX5_digest_131 (by decide) ?_
  refine g_aload_n B dX5_digest_132 0 rfl ?_
  refine g_iload_n B dX5_digest_133 2 rfl ?_
  refine g_callW (w2 := (fun (fp2_53 : Nat → Int32) => [(hb, .inr (5, [.ref hp, .ref ht, .ref hg, .ref ha, .ref hq])), (hp, .inr (2, [.ref p0, .ref p1, .ref p2, .ref p3, .ref p4])), (p0, .inl (cI, 12, .inl (fun _ => (0 : Int32)))), (p1, .inl (cI, 12, .inl (fun _ => (0 : Int32)))), (p2, .inl (cI, 12, .inl (fun _ => (0 : Int32)))), (p3, .inl (cI, 24, .inl (fun _ => (-1 : Int32)))), (p4, .inl (cZ, 12, .inl (fun _ => (0 : Int32)))), (ht, .inr (4, [.ref t0, .int (1 : Int32), .int (1 : Int32), .long (2 : Int64)])), (t0, .inl (cI, 30, .inl fp2_53)), (hg, .inr (1, [.ref g0, .ref g1, .ref g2, .int (1 : Int32)])), (g0, .inl (cI, 4, .inl (fun _ => (1 : Int32)))), (g1, .inl (cI, 4, .inl (fun _ => (1 : Int32)))), (g2, .inl (cI, 4, .inl (fun _ => (1 : Int32)))), (ha, .inr (0, [.ref a0, .ref a1, .ref a2, .ref a3, .int (0 : Int32), .long (0 : Int64)])), (a0, .inl (cI, 41, .inl fa0b_50)), (a1, .inl (cI, 41, .inl fa1b_50)), (a3, .inl (cL, 41, .inr (.inl fa3b_50))), (hq, .inr (3, [.ref r0, .ref r1, .ref r2, .int (0 : Int32)]))])) (g_runV (q0 := 0) (ci := 5) B hK rfl rfl (k_covers_v l (D := D) (cI := cI) (cL := cL) (cZ := cZ) hb hp ht hg ha hq p0 p1 p2 p3 p4 t0 fp2_52 (1 : Int32) (1 : Int32) (2 : Int64) 7 (by omega)) (gPw.pre (av := [.ref hb, .int (7 : Int32)]) (wc := [(hb, .inr (5, [.ref hp, .ref ht, .ref hg, .ref ha, .ref hq])), (hp, .inr (2, [.ref p0, .ref p1, .ref p2, .ref p3, .ref p4])), (p0, .inl (cI, 12, .inl (fun _ => (0 : Int32)))), (p1, .inl (cI, 12, .inl (fun _ => (0 : Int32)))), (p2, .inl (cI, 12, .inl (fun _ => (0 : Int32)))), (p3, .inl (cI, 24, .inl (fun _ => (-1 : Int32)))), (p4, .inl (cZ, 12, .inl (fun _ => (0 : Int32)))), (ht, .inr (4, [.ref t0, .int (1 : Int32), .int (1 : Int32), .long (2 : Int64)])), (t0, .inl (cI, 30, .inl fp2_52))]) hK hN [0, 1, 2, 3, 4, 5, 6, 7, 8] rfl (by decide)) gX5_digest_X5_covers rfl rfl kd_X5_covers ⟨by decide, by decide⟩ (st := [.long (-8237461976616826286 : Int64)]) rfl (Nat.le_of_ble_eq_true rfl) dX5_digest_134 ⟨by decide, by decide⟩) hA (fun _ h => h) [0, 1, 2, 3, 4, 5, 6, 7, 8] [9, 10, 11, 12, 13, 14, 15, 16, 17] (wr := [(hg, .inr (1, [.ref g0, .ref g1, .ref g2, .int (1 : Int32)])), (g0, .inl (cI, 4, .inl (fun _ => (1 : Int32)))), (g1, .inl (cI, 4, .inl (fun _ => (1 : Int32)))), (g2, .inl (cI, 4, .inl (fun _ => (1 : Int32)))), (ha, .inr (0, [.ref a0, .ref a1, .ref a2, .ref a3, .int (0 : Int32), .long (0 : Int64)])), (a0, .inl (cI, 41, .inl fa0b_50)), (a1, .inl (cI, 41, .inl fa1b_50)), (a3, .inl (cL, 41, .inr (.inl fa3b_50))), (hq, .inr (3, [.ref r0, .ref r1, .ref r2, .int (0 : Int32)]))]) rfl rfl (by decide) (by decide) [9, 10, 11, 12, 13, 14, 15, 16, 17, 0, 1, 2, 3, 4, 5, 6, 7, 8] (by decide) (fun _ => rfl) (fun u hu => ?_)
  obtain ⟨fp2_53, e9⟩ : ∃ z, z = u := ⟨_, rfl⟩; subst e9
  try dsimp only at hu ⊢
  refine g_i2l (v := (1 : Int64)) B dX5_digest_137 (by decide) ?_
  refine g_ladd (v := (-8237461976616826285 : Int64)) B dX5_digest_138 (by decide) ?_
  refine g_lstore_n (lv' := [(0, .ref hb), (1, .long (-8237461976616826285 : Int64)), (3, .int (7 : Int32))]) B dX5_digest_139 rfl (by decide) [1, 0, 2] rfl ?_
  refine g_lload_n B dX5_digest_140 1 rfl ?_
  refine g_ldc2 (v := (31 : Int64)) B dX5_digest_141 (List.mem_of_getElem? (i := 2) rfl) ?_
  refine g_lmul (v := (2893095756812107789 : Int64)) B dX5_digest_144 (by decide) ?_
  refine g_aload_n B dX5_digest_145 0 rfl ?_
  refine g_iload_n B dX5_digest_146 2 rfl ?_
  refine g_callW (w2 := (fun (z9 : (Nat → Int32) × (Nat → Int32) × (Nat → Int32) × (Nat → Int64)) => [(hb, .inr (5, [.ref hp, .ref ht, .ref hg, .ref ha, .ref hq])), (hp, .inr (2, [.ref p0, .ref p1, .ref p2, .ref p3, .ref p4])), (p0, .inl (cI, 12, .inl (fun _ => (0 : Int32)))), (p1, .inl (cI, 12, .inl (fun _ => (0 : Int32)))), (p2, .inl (cI, 12, .inl (fun _ => (0 : Int32)))), (p3, .inl (cI, 24, .inl (fun _ => (-1 : Int32)))), (p4, .inl (cZ, 12, .inl (fun _ => (0 : Int32)))), (ht, .inr (4, [.ref t0, .int (1 : Int32), .int (1 : Int32), .long (2 : Int64)])), (t0, .inl (cI, 30, .inl z9.1)), (hg, .inr (1, [.ref g0, .ref g1, .ref g2, .int (1 : Int32)])), (g0, .inl (cI, 4, .inl (fun _ => (1 : Int32)))), (g1, .inl (cI, 4, .inl (fun _ => (1 : Int32)))), (g2, .inl (cI, 4, .inl (fun _ => (1 : Int32)))), (ha, .inr (0, [.ref a0, .ref a1, .ref a2, .ref a3, .int (0 : Int32), .long (0 : Int64)])), (a0, .inl (cI, 41, .inl z9.2.1)), (a1, .inl (cI, 41, .inl z9.2.2.1)), (a3, .inl (cL, 41, .inr (.inl z9.2.2.2))), (hq, .inr (3, [.ref r0, .ref r1, .ref r2, .int (0 : Int32)]))])) (g_runV (q0 := 0) (ci := 5) B hK rfl rfl (k_wouldDrop_v l (D := D) (cI := cI) (cL := cL) (cZ := cZ) hb hp ht hg ha hq p0 p1 p2 p3 p4 t0 fp2_53 (1 : Int32) (1 : Int32) (2 : Int64) a0 a1 a2 a3 fa0b_50 fa1b_50 fa3b_50 7 (by omega)) (gPw.pre (av := [.ref hb, .int (7 : Int32)]) (wc := [(hb, .inr (5, [.ref hp, .ref ht, .ref hg, .ref ha, .ref hq])), (hp, .inr (2, [.ref p0, .ref p1, .ref p2, .ref p3, .ref p4])), (p0, .inl (cI, 12, .inl (fun _ => (0 : Int32)))), (p1, .inl (cI, 12, .inl (fun _ => (0 : Int32)))), (p2, .inl (cI, 12, .inl (fun _ => (0 : Int32)))), (p3, .inl (cI, 24, .inl (fun _ => (-1 : Int32)))), (p4, .inl (cZ, 12, .inl (fun _ => (0 : Int32)))), (ht, .inr (4, [.ref t0, .int (1 : Int32), .int (1 : Int32), .long (2 : Int64)])), (t0, .inl (cI, 30, .inl fp2_53)), (ha, .inr (0, [.ref a0, .ref a1, .ref a2, .ref a3, .int (0 : Int32), .long (0 : Int64)])), (a0, .inl (cI, 41, .inl fa0b_50)), (a1, .inl (cI, 41, .inl fa1b_50)), (a3, .inl (cL, 41, .inr (.inl fa3b_50)))]) hK hN [0, 1, 2, 3, 4, 5, 6, 7, 8, 13, 14, 15, 16] rfl (by decide)) gX5_digest_X5_wouldDrop rfl rfl kd_X5_wouldDrop ⟨by decide, by decide⟩ (st := [.long (2893095756812107789 : Int64)]) rfl (Nat.le_of_ble_eq_true rfl) dX5_digest_147 ⟨by decide, by decide⟩) hA (fun _ h => h) [0, 1, 2, 3, 4, 5, 6, 7, 8, 13, 14, 15, 16] [9, 10, 11, 12, 17] (wr := [(hg, .inr (1, [.ref g0, .ref g1, .ref g2, .int (1 : Int32)])), (g0, .inl (cI, 4, .inl (fun _ => (1 : Int32)))), (g1, .inl (cI, 4, .inl (fun _ => (1 : Int32)))), (g2, .inl (cI, 4, .inl (fun _ => (1 : Int32)))), (hq, .inr (3, [.ref r0, .ref r1, .ref r2, .int (0 : Int32)]))]) rfl rfl (by decide) (by decide) [5, 6, 7, 8, 9, 10, 11, 12, 13, 0, 1, 2, 3, 14, 15, 16, 17, 4] (by decide) (fun _ => rfl) (fun u hu => ?_)
  obtain ⟨fp2_54, fa0b_54, fa1b_54, fa3b_54⟩ := u
  try dsimp only at hu ⊢
  refine g_i2l (v := (0 : Int64)) B dX5_digest_150 (by decide) ?_
  refine g_ladd (v := (2893095756812107789 : Int64)) B dX5_digest_151 (by decide) ?_
  refine g_lstore_n (lv' := [(0, .ref hb), (1, .long (2893095756812107789 : Int64)), (3, .int (7 : Int32))]) B dX5_digest_152 rfl (by decide) [1, 0, 2] rfl ?_
  refine g_iinc (lv' := [(0, .ref hb), (1, .long (2893095756812107789 : Int64)), (3, .int (8 : Int32))]) B dX5_digest_153 2 rfl (by decide) (by decide) [1, 2, 0] rfl ?_
  refine g_goto (tgt := 108) B dX5_digest_156 (by decide) ?_
  refine g_iload_n B dX5_digest_108 2 rfl ?_
  refine g_bipush (v := (9 : Int32)) B dX5_digest_109 (by decide) ?_
  refine g_icmp_gt (tgt := 159) B dX5_digest_111 (by decide) (fun c55 => absurd c55 (by decide)) (fun _ => ?_)
  refine g_lload_n B dX5_digest_114 1 rfl ?_
  refine g_ldc2 (v := (31 : Int64)) B dX5_digest_115 (List.mem_of_getElem? (i := 2) rfl) ?_
  refine g_lmul (v := (-2547751907372416621 : Int64)) B dX5_digest_118 (by decide) ?_
  refine g_aload_n B dX5_digest_119 0 rfl ?_
  refine g_iload_n B dX5_digest_120 2 rfl ?_
  refine g_callW (w2 := (fun (fp2_56 : Nat → Int32) => [(hb, .inr (5, [.ref hp, .ref ht, .ref hg, .ref ha, .ref hq])), (hp, .inr (2, [.ref p0, .ref p1, .ref p2, .ref p3, .ref p4])), (p0, .inl (cI, 12, .inl (fun _ => (0 : Int32)))), (p1, .inl (cI, 12, .inl (fun _ => (0 : Int32)))), (p2, .inl (cI, 12, .inl (fun _ => (0 : Int32)))), (p3, .inl (cI, 24, .inl (fun _ => (-1 : Int32)))), (p4, .inl (cZ, 12, .inl (fun _ => (0 : Int32)))), (ht, .inr (4, [.ref t0, .int (1 : Int32), .int (1 : Int32), .long (2 : Int64)])), (t0, .inl (cI, 30, .inl fp2_56)), (hg, .inr (1, [.ref g0, .ref g1, .ref g2, .int (1 : Int32)])), (g0, .inl (cI, 4, .inl (fun _ => (1 : Int32)))), (g1, .inl (cI, 4, .inl (fun _ => (1 : Int32)))), (g2, .inl (cI, 4, .inl (fun _ => (1 : Int32)))), (ha, .inr (0, [.ref a0, .ref a1, .ref a2, .ref a3, .int (0 : Int32), .long (0 : Int64)])), (a0, .inl (cI, 41, .inl fa0b_54)), (a1, .inl (cI, 41, .inl fa1b_54)), (a3, .inl (cL, 41, .inr (.inl fa3b_54))), (hq, .inr (3, [.ref r0, .ref r1, .ref r2, .int (0 : Int32)]))])) (g_runV (q0 := 0) (ci := 5) B hK rfl rfl (k_run_v l (D := D) (cI := cI) (cL := cL) (cZ := cZ) hb hp ht hg ha hq p0 p1 p2 p3 p4 t0 fp2_54 (1 : Int32) (1 : Int32) (2 : Int64) 8 (by omega)) (gPw.pre (av := [.ref hb, .int (8 : Int32)]) (wc := [(hb, .inr (5, [.ref hp, .ref ht, .ref hg, .ref ha, .ref hq])), (hp, .inr (2, [.ref p0, .ref p1, .ref p2, .ref p3, .ref p4])), (p0, .inl (cI, 12, .inl (fun _ => (0 : Int32)))), (p1, .inl (cI, 12, .inl (fun _ => (0 : Int32)))), (p2, .inl (cI, 12, .inl (fun _ => (0 : Int32)))), (p3, .inl (cI, 24, .inl (fun _ => (-1 : Int32)))), (p4, .inl (cZ, 12, .inl (fun _ => (0 : Int32)))), (ht, .inr (4, [.ref t0, .int (1 : Int32), .int (1 : Int32), .long (2 : Int64)])), (t0, .inl (cI, 30, .inl fp2_54))]) hK hN [0, 1, 2, 3, 4, 5, 6, 7, 8] rfl (by decide)) gX5_digest_X5_run rfl rfl kd_X5_run ⟨by decide, by decide⟩ (st := [.long (-2547751907372416621 : Int64)]) rfl (Nat.le_of_ble_eq_true rfl) dX5_digest_121 ⟨by decide, by decide⟩) hA (fun _ h => h) [0, 1, 2, 3, 4, 5, 6, 7, 8] [9, 10, 11, 12, 13, 14, 15, 16, 17] (wr := [(hg, .inr (1, [.ref g0, .ref g1, .ref g2, .int (1 : Int32)])), (g0, .inl (cI, 4, .inl (fun _ => (1 : Int32)))), (g1, .inl (cI, 4, .inl (fun _ => (1 : Int32)))), (g2, .inl (cI, 4, .inl (fun _ => (1 : Int32)))), (ha, .inr (0, [.ref a0, .ref a1, .ref a2, .ref a3, .int (0 : Int32), .long (0 : Int64)])), (a0, .inl (cI, 41, .inl fa0b_54)), (a1, .inl (cI, 41, .inl fa1b_54)), (a3, .inl (cL, 41, .inr (.inl fa3b_54))), (hq, .inr (3, [.ref r0, .ref r1, .ref r2, .int (0 : Int32)]))]) rfl rfl (by decide) (by decide) [9, 10, 11, 12, 13, 14, 15, 16, 17, 0, 1, 2, 3, 4, 5, 6, 7, 8] (by decide) (fun _ => rfl) (fun u hu => ?_)
  obtain ⟨fp2_56, e9⟩ : ∃ z, z = u := ⟨_, rfl⟩; subst e9
  try dsimp only at hu ⊢
  refine g_i2l (v := (1 : Int64)) B dX5_digest_124 (by decide) ?_
  refine g_ladd (v := (-2547751907372416620 : Int64)) B dX5_digest_125 (by decide) ?_
  refine g_lstore_n (lv' := [(0, .ref hb), (1, .long (-2547751907372416620 : Int64)), (3, .int (8 : Int32))]) B dX5_digest_126 rfl (by decide) [1, 0, 2] rfl ?_
  refine g_lload_n B dX5_digest_127 1 rfl ?_
  refine g_ldc2 (v := (31 : Int64)) B dX5_digest_128 (List.mem_of_getElem? (i := 2) rfl) ?_
  refine g_lmul (v := (-5193332833706708756 : Int64)) B dX5_digest_131 (by decide) ?_
  refine g_aload_n B dX5_digest_132 0 rfl ?_
  refine g_iload_n B dX5_digest_133 2 rfl ?_
  refine g_callW (w2 := (fun (fp2_57 : Nat → Int32) => [(hb, .inr (5, [.ref hp, .ref ht, .ref hg, .ref ha, .ref hq])), (hp, .inr (2, [.ref p0, .ref p1, .ref p2, .ref p3, .ref p4])), (p0, .inl (cI, 12, .inl (fun _ => (0 : Int32)))), (p1, .inl (cI, 12, .inl (fun _ => (0 : Int32)))), (p2, .inl (cI, 12, .inl (fun _ => (0 : Int32)))), (p3, .inl (cI, 24, .inl (fun _ => (-1 : Int32)))), (p4, .inl (cZ, 12, .inl (fun _ => (0 : Int32)))), (ht, .inr (4, [.ref t0, .int (1 : Int32), .int (1 : Int32), .long (2 : Int64)])), (t0, .inl (cI, 30, .inl fp2_57)), (hg, .inr (1, [.ref g0, .ref g1, .ref g2, .int (1 : Int32)])), (g0, .inl (cI, 4, .inl (fun _ => (1 : Int32)))), (g1, .inl (cI, 4, .inl (fun _ => (1 : Int32)))), (g2, .inl (cI, 4, .inl (fun _ => (1 : Int32)))), (ha, .inr (0, [.ref a0, .ref a1, .ref a2, .ref a3, .int (0 : Int32), .long (0 : Int64)])), (a0, .inl (cI, 41, .inl fa0b_54)), (a1, .inl (cI, 41, .inl fa1b_54)), (a3, .inl (cL, 41, .inr (.inl fa3b_54))), (hq, .inr (3, [.ref r0, .ref r1, .ref r2, .int (0 : Int32)]))])) (g_runV (q0 := 0) (ci := 5) B hK rfl rfl (k_covers_v l (D := D) (cI := cI) (cL := cL) (cZ := cZ) hb hp ht hg ha hq p0 p1 p2 p3 p4 t0 fp2_56 (1 : Int32) (1 : Int32) (2 : Int64) 8 (by omega)) (gPw.pre (av := [.ref hb, .int (8 : Int32)]) (wc := [(hb, .inr (5, [.ref hp, .ref ht, .ref hg, .ref ha, .ref hq])), (hp, .inr (2, [.ref p0, .ref p1, .ref p2, .ref p3, .ref p4])), (p0, .inl (cI, 12, .inl (fun _ => (0 : Int32)))), (p1, .inl (cI, 12, .inl (fun _ => (0 : Int32)))), (p2, .inl (cI, 12, .inl (fun _ => (0 : Int32)))), (p3, .inl (cI, 24, .inl (fun _ => (-1 : Int32)))), (p4, .inl (cZ, 12, .inl (fun _ => (0 : Int32)))), (ht, .inr (4, [.ref t0, .int (1 : Int32), .int (1 : Int32), .long (2 : Int64)])), (t0, .inl (cI, 30, .inl fp2_56))]) hK hN [0, 1, 2, 3, 4, 5, 6, 7, 8] rfl (by decide)) gX5_digest_X5_covers rfl rfl kd_X5_covers ⟨by decide, by decide⟩ (st := [.long (-5193332833706708756 : Int64)]) rfl (Nat.le_of_ble_eq_true rfl) dX5_digest_134 ⟨by decide, by decide⟩) hA (fun _ h => h) [0, 1, 2, 3, 4, 5, 6, 7, 8] [9, 10, 11, 12, 13, 14, 15, 16, 17] (wr := [(hg, .inr (1, [.ref g0, .ref g1, .ref g2, .int (1 : Int32)])), (g0, .inl (cI, 4, .inl (fun _ => (1 : Int32)))), (g1, .inl (cI, 4, .inl (fun _ => (1 : Int32)))), (g2, .inl (cI, 4, .inl (fun _ => (1 : Int32)))), (ha, .inr (0, [.ref a0, .ref a1, .ref a2, .ref a3, .int (0 : Int32), .long (0 : Int64)])), (a0, .inl (cI, 41, .inl fa0b_54)), (a1, .inl (cI, 41, .inl fa1b_54)), (a3, .inl (cL, 41, .inr (.inl fa3b_54))), (hq, .inr (3, [.ref r0, .ref r1, .ref r2, .int (0 : Int32)]))]) rfl rfl (by decide) (by decide) [9, 10, 11, 12, 13, 14, 15, 16, 17, 0, 1, 2, 3, 4, 5, 6, 7, 8] (by decide) (fun _ => rfl) (fun u hu => ?_)
  obtain ⟨fp2_57, e9⟩ : ∃ z, z = u := ⟨_, rfl⟩; subst e9
  try dsimp only at hu ⊢
  refine g_i2l (v := (1 : Int64)) B dX5_digest_137 (by decide) ?_
  refine g_ladd (v := (-5193332833706708755 : Int64)) B dX5_digest_138 (by decide) ?_
  refine g_lstore_n (lv' := [(0, .ref hb), (1, .long (-5193332833706708755 : Int64)), (3, .int (8 : Int32))]) B dX5_digest_139 rfl (by decide) [1, 0, 2] rfl ?_
  refine g_lload_n B dX5_digest_140 1 rfl ?_
  refine g_ldc2 (v := (31 : Int64)) B dX5_digest_141 (List.mem_of_getElem? (i := 2) rfl) ?_
  refine g_lmul (v := (5027378818477993139 : Int64)) B dX5_digest_144 (by decide) ?_
  refine g_aload_n B dX5_digest_145 0 rfl ?_
  refine g_iload_n B dX5_digest_146 2 rfl ?_
  refine g_callW (w2 := (fun (z9 : (Nat → Int32) × (Nat → Int32) × (Nat → Int32) × (Nat → Int64)) => [(hb, .inr (5, [.ref hp, .ref ht, .ref hg, .ref ha, .ref hq])), (hp, .inr (2, [.ref p0, .ref p1, .ref p2, .ref p3, .ref p4])), (p0, .inl (cI, 12, .inl (fun _ => (0 : Int32)))), (p1, .inl (cI, 12, .inl (fun _ => (0 : Int32)))), (p2, .inl (cI, 12, .inl (fun _ => (0 : Int32)))), (p3, .inl (cI, 24, .inl (fun _ => (-1 : Int32)))), (p4, .inl (cZ, 12, .inl (fun _ => (0 : Int32)))), (ht, .inr (4, [.ref t0, .int (1 : Int32), .int (1 : Int32), .long (2 : Int64)])), (t0, .inl (cI, 30, .inl z9.1)), (hg, .inr (1, [.ref g0, .ref g1, .ref g2, .int (1 : Int32)])), (g0, .inl (cI, 4, .inl (fun _ => (1 : Int32)))), (g1, .inl (cI, 4, .inl (fun _ => (1 : Int32)))), (g2, .inl (cI, 4, .inl (fun _ => (1 : Int32)))), (ha, .inr (0, [.ref a0, .ref a1, .ref a2, .ref a3, .int (0 : Int32), .long (0 : Int64)])), (a0, .inl (cI, 41, .inl z9.2.1)), (a1, .inl (cI, 41, .inl z9.2.2.1)), (a3, .inl (cL, 41, .inr (.inl z9.2.2.2))), (hq, .inr (3, [.ref r0, .ref r1, .ref r2, .int (0 : Int32)]))])) (g_runV (q0 := 0) (ci := 5) B hK rfl rfl (k_wouldDrop_v l (D := D) (cI := cI) (cL := cL) (cZ := cZ) hb hp ht hg ha hq p0 p1 p2 p3 p4 t0 fp2_57 (1 : Int32) (1 : Int32) (2 : Int64) a0 a1 a2 a3 fa0b_54 fa1b_54 fa3b_54 8 (by omega)) (gPw.pre (av := [.ref hb, .int (8 : Int32)]) (wc := [(hb, .inr (5, [.ref hp, .ref ht, .ref hg, .ref ha, .ref hq])), (hp, .inr (2, [.ref p0, .ref p1, .ref p2, .ref p3, .ref p4])), (p0, .inl (cI, 12, .inl (fun _ => (0 : Int32)))), (p1, .inl (cI, 12, .inl (fun _ => (0 : Int32)))), (p2, .inl (cI, 12, .inl (fun _ => (0 : Int32)))), (p3, .inl (cI, 24, .inl (fun _ => (-1 : Int32)))), (p4, .inl (cZ, 12, .inl (fun _ => (0 : Int32)))), (ht, .inr (4, [.ref t0, .int (1 : Int32), .int (1 : Int32), .long (2 : Int64)])), (t0, .inl (cI, 30, .inl fp2_57)), (ha, .inr (0, [.ref a0, .ref a1, .ref a2, .ref a3, .int (0 : Int32), .long (0 : Int64)])), (a0, .inl (cI, 41, .inl fa0b_54)), (a1, .inl (cI, 41, .inl fa1b_54)), (a3, .inl (cL, 41, .inr (.inl fa3b_54)))]) hK hN [0, 1, 2, 3, 4, 5, 6, 7, 8, 13, 14, 15, 16] rfl (by decide)) gX5_digest_X5_wouldDrop rfl rfl kd_X5_wouldDrop ⟨by decide, by decide⟩ (st := [.long (5027378818477993139 : Int64)]) rfl (Nat.le_of_ble_eq_true rfl) dX5_digest_147 ⟨by decide, by decide⟩) hA (fun _ h => h) [0, 1, 2, 3, 4, 5, 6, 7, 8, 13, 14, 15, 16] [9, 10, 11, 12, 17] (wr := [(hg, .inr (1, [.ref g0, .ref g1, .ref g2, .int (1 : Int32)])), (g0, .inl (cI, 4, .inl (fun _ => (1 : Int32)))), (g1, .inl (cI, 4, .inl (fun _ => (1 : Int32)))), (g2, .inl (cI, 4, .inl (fun _ => (1 : Int32)))), (hq, .inr (3, [.ref r0, .ref r1, .ref r2, .int (0 : Int32)]))]) rfl rfl (by decide) (by decide) [5, 6, 7, 8, 9, 10, 11, 12, 13, 0, 1, 2, 3, 14, 15, 16, 17, 4] (by decide) (fun _ => rfl) (fun u hu => ?_)
  obtain ⟨fp2_58, fa0b_58, fa1b_58, fa3b_58⟩ := u
  try dsimp only at hu ⊢
  refine g_i2l (v := (0 : Int64)) B dX5_digest_150 (by decide) ?_
  refine g_ladd (v := (5027378818477993139 : Int64)) B dX5_digest_151 (by decide) ?_
  refine g_lstore_n (lv' := [(0, .ref hb), (1, .long (5027378818477993139 : Int64)), (3, .int (8 : Int32))]) B dX5_digest_152 rfl (by decide) [1, 0, 2] rfl ?_
  refine g_iinc (lv' := [(0, .ref hb), (1, .long (5027378818477993139 : Int64)), (3, .int (9 : Int32))]) B dX5_digest_153 2 rfl (by decide) (by decide) [1, 2, 0] rfl ?_
  refine g_goto (tgt := 108) B dX5_digest_156 (by decide) ?_
  refine g_iload_n B dX5_digest_108 2 rfl ?_
  refine g_bipush (v := (9 : Int32)) B dX5_digest_109 (by decide) ?_
  refine g_icmp_gt (tgt := 159) B dX5_digest_111 (by decide) (fun c59 => absurd c59 (by decide)) (fun _ => ?_)
  refine g_lload_n B dX5_digest_114 1 rfl ?_
  refine g_ldc2 (v := (31 : Int64)) B dX5_digest_115 (List.mem_of_getElem? (i := 2) rfl) ?_
  refine g_lmul (v := (8274790783141374381 : Int64)) B dX5_digest_118 (by decide) ?_
  refine g_aload_n B dX5_digest_119 0 rfl ?_
  refine g_iload_n B dX5_digest_120 2 rfl ?_
  refine g_callW (w2 := (fun (fp2_60 : Nat → Int32) => [(hb, .inr (5, [.ref hp, .ref ht, .ref hg, .ref ha, .ref hq])), (hp, .inr (2, [.ref p0, .ref p1, .ref p2, .ref p3, .ref p4])), (p0, .inl (cI, 12, .inl (fun _ => (0 : Int32)))), (p1, .inl (cI, 12, .inl (fun _ => (0 : Int32)))), (p2, .inl (cI, 12, .inl (fun _ => (0 : Int32)))), (p3, .inl (cI, 24, .inl (fun _ => (-1 : Int32)))), (p4, .inl (cZ, 12, .inl (fun _ => (0 : Int32)))), (ht, .inr (4, [.ref t0, .int (1 : Int32), .int (1 : Int32), .long (2 : Int64)])), (t0, .inl (cI, 30, .inl fp2_60)), (hg, .inr (1, [.ref g0, .ref g1, .ref g2, .int (1 : Int32)])), (g0, .inl (cI, 4, .inl (fun _ => (1 : Int32)))), (g1, .inl (cI, 4, .inl (fun _ => (1 : Int32)))), (g2, .inl (cI, 4, .inl (fun _ => (1 : Int32)))), (ha, .inr (0, [.ref a0, .ref a1, .ref a2, .ref a3, .int (0 : Int32), .long (0 : Int64)])), (a0, .inl (cI, 41, .inl fa0b_58)), (a1, .inl (cI, 41, .inl fa1b_58)), (a3, .inl (cL, 41, .inr (.inl fa3b_58))), (hq, .inr (3, [.ref r0, .ref r1, .ref r2, .int (0 : Int32)]))])) (g_runV (q0 := 0) (ci := 5) B hK rfl rfl (k_run_v l (D := D) (cI := cI) (cL := cL) (cZ := cZ) hb hp ht hg ha hq p0 p1 p2 p3 p4 t0 fp2_58 (1 : Int32) (1 : Int32) (2 : Int64) 9 (by omega)) (gPw.pre (av := [.ref hb, .int (9 : Int32)]) (wc := [(hb, .inr (5, [.ref hp, .ref ht, .ref hg, .ref ha, .ref hq])), (hp, .inr (2, [.ref p0, .ref p1, .ref p2, .ref p3, .ref p4])), (p0, .inl (cI, 12, .inl (fun _ => (0 : Int32)))), (p1, .inl (cI, 12, .inl (fun _ => (0 : Int32)))), (p2, .inl (cI, 12, .inl (fun _ => (0 : Int32)))), (p3, .inl (cI, 24, .inl (fun _ => (-1 : Int32)))), (p4, .inl (cZ, 12, .inl (fun _ => (0 : Int32)))), (ht, .inr (4, [.ref t0, .int (1 : Int32), .int (1 : Int32), .long (2 : Int64)])), (t0, .inl (cI, 30, .inl fp2_58))]) hK hN [0, 1, 2, 3, 4, 5, 6, 7, 8] rfl (by decide)) gX5_digest_X5_run rfl rfl kd_X5_run ⟨by decide, by decide⟩ (st := [.long (8274790783141374381 : Int64)]) rfl (Nat.le_of_ble_eq_true rfl) dX5_digest_121 ⟨by decide, by decide⟩) hA (fun _ h => h) [0, 1, 2, 3, 4, 5, 6, 7, 8] [9, 10, 11, 12, 13, 14, 15, 16, 17] (wr := [(hg, .inr (1, [.ref g0, .ref g1, .ref g2, .int (1 : Int32)])), (g0, .inl (cI, 4, .inl (fun _ => (1 : Int32)))), (g1, .inl (cI, 4, .inl (fun _ => (1 : Int32)))), (g2, .inl (cI, 4, .inl (fun _ => (1 : Int32)))), (ha, .inr (0, [.ref a0, .ref a1, .ref a2, .ref a3, .int (0 : Int32), .long (0 : Int64)])), (a0, .inl (cI, 41, .inl fa0b_58)), (a1, .inl (cI, 41, .inl fa1b_58)), (a3, .inl (cL, 41, .inr (.inl fa3b_58))), (hq, .inr (3, [.ref r0, .ref r1, .ref r2, .int (0 : Int32)]))]) rfl rfl (by decide) (by decide) [9, 10, 11, 12, 13, 14, 15, 16, 17, 0, 1, 2, 3, 4, 5, 6, 7, 8] (by decide) (fun _ => rfl) (fun u hu => ?_)
  obtain ⟨fp2_60, e9⟩ : ∃ z, z = u := ⟨_, rfl⟩; subst e9
  try dsimp only at hu ⊢
  refine g_i2l (v := (1 : Int64)) B dX5_digest_124 (by decide) ?_
  refine g_ladd (v := (8274790783141374382 : Int64)) B dX5_digest_125 (by decide) ?_
  refine g_lstore_n (lv' := [(0, .ref hb), (1, .long (8274790783141374382 : Int64)), (3, .int (9 : Int32))]) B dX5_digest_126 rfl (by decide) [1, 0, 2] rfl ?_
  refine g_lload_n B dX5_digest_127 1 rfl ?_
  refine g_ldc2 (v := (31 : Int64)) B dX5_digest_128 (List.mem_of_getElem? (i := 2) rfl) ?_
  refine g_lmul (v := (-1735902754551116782 : Int64)) B dX5_digest_131 (by decide) ?_
  refine g_aload_n B dX5_digest_132 0 rfl ?_
  refine g_iload_n B dX5_digest_133 2 rfl ?_
  refine g_callW (w2 := (fun (fp2_61 : Nat → Int32) => [(hb, .inr (5, [.ref hp, .ref ht, .ref hg, .ref ha, .ref hq])), (hp, .inr (2, [.ref p0, .ref p1, .ref p2, .ref p3, .ref p4])), (p0, .inl (cI, 12, .inl (fun _ => (0 : Int32)))), (p1, .inl (cI, 12, .inl (fun _ => (0 : Int32)))), (p2, .inl (cI, 12, .inl (fun _ => (0 : Int32)))), (p3, .inl (cI, 24, .inl (fun _ => (-1 : Int32)))), (p4, .inl (cZ, 12, .inl (fun _ => (0 : Int32)))), (ht, .inr (4, [.ref t0, .int (1 : Int32), .int (1 : Int32), .long (2 : Int64)])), (t0, .inl (cI, 30, .inl fp2_61)), (hg, .inr (1, [.ref g0, .ref g1, .ref g2, .int (1 : Int32)])), (g0, .inl (cI, 4, .inl (fun _ => (1 : Int32)))), (g1, .inl (cI, 4, .inl (fun _ => (1 : Int32)))), (g2, .inl (cI, 4, .inl (fun _ => (1 : Int32)))), (ha, .inr (0, [.ref a0, .ref a1, .ref a2, .ref a3, .int (0 : Int32), .long (0 : Int64)])), (a0, .inl (cI, 41, .inl fa0b_58)), (a1, .inl (cI, 41, .inl fa1b_58)), (a3, .inl (cL, 41, .inr (.inl fa3b_58))), (hq, .inr (3, [.ref r0, .ref r1, .ref r2, .int (0 : Int32)]))])) (g_runV (q0 := 0) (ci := 5) B hK rfl rfl (k_covers_v l (D := D) (cI := cI) (cL := cL) (cZ := cZ) hb hp ht hg ha hq p0 p1 p2 p3 p4 t0 fp2_60 (1 : Int32) (1 : Int32) (2 : Int64) 9 (by omega)) (gPw.pre (av := [.ref hb, .int (9 : Int32)]) (wc := [(hb, .inr (5, [.ref hp, .ref ht, .ref hg, .ref ha, .ref hq])), (hp, .inr (2, [.ref p0, .ref p1, .ref p2, .ref p3, .ref p4])), (p0, .inl (cI, 12, .inl (fun _ => (0 : Int32)))), (p1, .inl (cI, 12, .inl (fun _ => (0 : Int32)))), (p2, .inl (cI, 12, .inl (fun _ => (0 : Int32)))), (p3, .inl (cI, 24, .inl (fun _ => (-1 : Int32)))), (p4, .inl (cZ, 12, .inl (fun _ => (0 : Int32)))), (ht, .inr (4, [.ref t0, .int (1 : Int32), .int (1 : Int32), .long (2 : Int64)])), (t0, .inl (cI, 30, .inl fp2_60))]) hK hN [0, 1, 2, 3, 4, 5, 6, 7, 8] rfl (by decide)) gX5_digest_X5_covers rfl rfl kd_X5_covers ⟨by decide, by decide⟩ (st := [.long (-1735902754551116782 : Int64)]) rfl (Nat.le_of_ble_eq_true rfl) dX5_digest_134 ⟨by decide, by decide⟩) hA (fun _ h => h) [0, 1, 2, 3, 4, 5, 6, 7, 8] [9, 10, 11, 12, 13, 14, 15, 16, 17] (wr := [(hg, .inr (1, [.ref g0, .ref g1, .ref g2, .int (1 : Int32)])), (g0, .inl (cI, 4, .inl (fun _ => (1 : Int32)))), (g1, .inl (cI, 4, .inl (fun _ => (1 : Int32)))), (g2, .inl (cI, 4, .inl (fun _ => (1 : Int32)))), (ha, .inr (0, [.ref a0, .ref a1, .ref a2, .ref a3, .int (0 : Int32), .long (0 : Int64)])), (a0, .inl (cI, 41, .inl fa0b_58)), (a1, .inl (cI, 41, .inl fa1b_58)), (a3, .inl (cL, 41, .inr (.inl fa3b_58))), (hq, .inr (3, [.ref r0, .ref r1, .ref r2, .int (0 : Int32)]))]) rfl rfl (by decide) (by decide) [9, 10, 11, 12, 13, 14, 15, 16, 17, 0, 1, 2, 3, 4, 5, 6, 7, 8] (by decide) (fun _ => rfl) (fun u hu => ?_)
  obtain ⟨fp2_61, e9⟩ : ∃ z, z = u := ⟨_, rfl⟩; subst e9
  try dsimp only at hu ⊢
  refine g_i2l (v := (1 : Int64)) B dX5_digest_137 (by decide) ?_
  refine g_ladd (v := (-1735902754551116781 : Int64)) B dX5_digest_138 (by decide) ?_
  refine g_lstore_n (lv' := [(0, .ref hb), (1, .long (-1735902754551116781 : Int64)), (3, .int (9 : Int32))]) B dX5_digest_139 rfl (by decide) [1, 0, 2] rfl ?_
  refine g_lload_n B dX5_digest_140 1 rfl ?_
  refine g_ldc2 (v := (31 : Int64)) B dX5_digest_141 (List.mem_of_getElem? (i := 2) rfl) ?_
  refine g_lmul (v := (1527246830044034637 : Int64)) B dX5_digest_144 (by decide) ?_
  refine g_aload_n B dX5_digest_145 0 rfl ?_
  refine g_iload_n B dX5_digest_146 2 rfl ?_
  refine g_callW (w2 := (fun (z9 : (Nat → Int32) × (Nat → Int32) × (Nat → Int32) × (Nat → Int64)) => [(hb, .inr (5, [.ref hp, .ref ht, .ref hg, .ref ha, .ref hq])), (hp, .inr (2, [.ref p0, .ref p1, .ref p2, .ref p3, .ref p4])), (p0, .inl (cI, 12, .inl (fun _ => (0 : Int32)))), (p1, .inl (cI, 12, .inl (fun _ => (0 : Int32)))), (p2, .inl (cI, 12, .inl (fun _ => (0 : Int32)))), (p3, .inl (cI, 24, .inl (fun _ => (-1 : Int32)))), (p4, .inl (cZ, 12, .inl (fun _ => (0 : Int32)))), (ht, .inr (4, [.ref t0, .int (1 : Int32), .int (1 : Int32), .long (2 : Int64)])), (t0, .inl (cI, 30, .inl z9.1)), (hg, .inr (1, [.ref g0, .ref g1, .ref g2, .int (1 : Int32)])), (g0, .inl (cI, 4, .inl (fun _ => (1 : Int32)))), (g1, .inl (cI, 4, .inl (fun _ => (1 : Int32)))), (g2, .inl (cI, 4, .inl (fun _ => (1 : Int32)))), (ha, .inr (0, [.ref a0, .ref a1, .ref a2, .ref a3, .int (0 : Int32), .long (0 : Int64)])), (a0, .inl (cI, 41, .inl z9.2.1)), (a1, .inl (cI, 41, .inl z9.2.2.1)), (a3, .inl (cL, 41, .inr (.inl z9.2.2.2))), (hq, .inr (3, [.ref r0, .ref r1, .ref r2, .int (0 : Int32)]))])) (g_runV (q0 := 0) (ci := 5) B hK rfl rfl (k_wouldDrop_v l (D := D) (cI := cI) (cL := cL) (cZ := cZ) hb hp ht hg ha hq p0 p1 p2 p3 p4 t0 fp2_61 (1 : Int32) (1 : Int32) (2 : Int64) a0 a1 a2 a3 fa0b_58 fa1b_58 fa3b_58 9 (by omega)) (gPw.pre (av := [.ref hb, .int (9 : Int32)]) (wc := [(hb, .inr (5, [.ref hp, .ref ht, .ref hg, .ref ha, .ref hq])), (hp, .inr (2, [.ref p0, .ref p1, .ref p2, .ref p3, .ref p4])), (p0, .inl (cI, 12, .inl (fun _ => (0 : Int32)))), (p1, .inl (cI, 12, .inl (fun _ => (0 : Int32)))), (p2, .inl (cI, 12, .inl (fun _ => (0 : Int32)))), (p3, .inl (cI, 24, .inl (fun _ => (-1 : Int32)))), (p4, .inl (cZ, 12, .inl (fun _ => (0 : Int32)))), (ht, .inr (4, [.ref t0, .int (1 : Int32), .int (1 : Int32), .long (2 : Int64)])), (t0, .inl (cI, 30, .inl fp2_61)), (ha, .inr (0, [.ref a0, .ref a1, .ref a2, .ref a3, .int (0 : Int32), .long (0 : Int64)])), (a0, .inl (cI, 41, .inl fa0b_58)), (a1, .inl (cI, 41, .inl fa1b_58)), (a3, .inl (cL, 41, .inr (.inl fa3b_58)))]) hK hN [0, 1, 2, 3, 4, 5, 6, 7, 8, 13, 14, 15, 16] rfl (by decide)) gX5_digest_X5_wouldDrop rfl rfl kd_X5_wouldDrop ⟨by decide, by decide⟩ (st := [.long (1527246830044034637 : Int64)]) rfl (Nat.le_of_ble_eq_true rfl) dX5_digest_147 ⟨by decide, by decide⟩) hA (fun _ h => h) [0, 1, 2, 3, 4, 5, 6, 7, 8, 13, 14, 15, 16] [9, 10, 11, 12, 17] (wr := [(hg, .inr (1, [.ref g0, .ref g1, .ref g2, .int (1 : Int32)])), (g0, .inl (cI, 4, .inl (fun _ => (1 : Int32)))), (g1, .inl (cI, 4, .inl (fun _ => (1 : Int32)))), (g2, .inl (cI, 4, .inl (fun _ => (1 : Int32)))), (hq, .inr (3, [.ref r0, .ref r1, .ref r2, .int (0 : Int32)]))]) rfl rfl (by decide) (by decide) [5, 6, 7, 8, 9, 10, 11, 12, 13, 0, 1, 2, 3, 14, 15, 16, 17, 4] (by decide) (fun _ => rfl) (fun u hu => ?_)
  obtain ⟨fp2_62, fa0b_62, fa1b_62, fa3b_62⟩ := u
  try dsimp only at hu ⊢
  refine g_i2l (v := (0 : Int64)) B dX5_digest_150 (by decide) ?_
  refine g_ladd (v := (1527246830044034637 : Int64)) B dX5_digest_151 (by decide) ?_
  refine g_lstore_n (lv' := [(0, .ref hb), (1, .long (1527246830044034637 : Int64)), (3, .int (9 : Int32))]) B dX5_digest_152 rfl (by decide) [1, 0, 2] rfl ?_
  refine g_iinc (lv' := [(0, .ref hb), (1, .long (1527246830044034637 : Int64)), (3, .int (10 : Int32))]) B dX5_digest_153 2 rfl (by decide) (by decide) [1, 2, 0] rfl ?_
  refine g_goto (tgt := 108) B dX5_digest_156 (by decide) ?_
  refine g_iload_n B dX5_digest_108 2 rfl ?_
  refine g_bipush (v := (9 : Int32)) B dX5_digest_109 (by decide) ?_
  refine g_icmp_gt (tgt := 159) B dX5_digest_111 (by decide) (fun _ => ?_) (fun c63 => absurd (by decide) c63)
  refine g_lload_n B dX5_digest_159 1 rfl ?_
  exact g_lret_w B hr hlocks () (rfl) (trivial) [] (by decide) rfl dX5_digest_160

