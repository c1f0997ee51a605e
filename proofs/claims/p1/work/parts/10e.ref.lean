/-! the reference on a fresh object: ahead and digest -/
theorem kd_X6_aheadNow : yX6_aheadNow.cls ≠ "java/lang/invoke/MethodHandle" ∧ yX6_aheadNow.cls ≠ "java/lang/invoke/VarHandle" ∧ (parseMethodDescriptor yX6_aheadNow.desc).map (fun d => d.parameters.length) = some 1 := by decide +kernel
theorem hin_X6_aheadNow_RX6 : ∀ z ∈ u_ws RX6 TX6 18, z ∈ wsX6_aheadNow := by decide +kernel
theorem hin_X6_ahead_RX6 : ∀ z ∈ u_ws RX6 TX6 18, z ∈ wsX6_ahead := by decide +kernel
theorem hin_X6_digest_RX6 : ∀ z ∈ u_ws RX6 TX6 18, z ∈ wsX6_digest := by decide +kernel
set_option maxHeartbeats 4000000 in
set_option maxRecDepth 100000 in
theorem r_aheadNow_n (l : Launch) {D : va_G} {cI cL cZ : ClassId} (hm : Nat) (m1 : Nat) (m2 : Nat) (m3 : Nat) (m4 : Nat) (m5 : Nat) (m7 : Nat) (m9 : Nat) (m10 : Nat) (m11 : Nat) (m12 : Nat) (m13 : Nat) (m15 : Nat) (m16 : Nat) (m17 : Nat) (th : Int32) (rl : Int32) (sd : Nat) (a1 : Nat) (hs : sd < 10000) (h1 : 0 < a1) (h2 : a1 ≤ 50) : WM l yX6_aheadNow wsX6_aheadNow ({ frames := 5, cells := 101, slots := 1763, locals := 112 } : Room) D (gTys cI cL cZ) [.ref hm, .int (nI a1)] [(hm, .inr (6, [.int th, .ref m1, .ref m2, .ref m3, .ref m4, .ref m5, .int (nI sd), .ref m7, .int (0 : Int32), .ref m9, .ref m10, .ref m11, .ref m12, .ref m13, .int rl, .ref m15, .ref m16, .ref m17])), (m1, .inl (cI, 12, .inl (fun _ => (0 : Int32)))), (m2, .inl (cI, 12, .inl (fun _ => (0 : Int32)))), (m3, .inl (cI, 12, .inl (fun _ => (0 : Int32)))), (m4, .inl (cI, 24, .inl (fun _ => (-1 : Int32)))), (m5, .inl (cZ, 12, .inl (fun _ => (0 : Int32)))), (m7, .inl (cI, 12, .inl (fun _ => (1 : Int32))))] (fun (_ : Unit) => True) (fun (_ : Unit) => some (.int (1 : Int32))) (fun (_ : Unit) => [(hm, .inr (6, [.int th, .ref m1, .ref m2, .ref m3, .ref m4, .ref m5, .int (nI sd), .ref m7, .int (0 : Int32), .ref m9, .ref m10, .ref m11, .ref m12, .ref m13, .int rl, .ref m15, .ref m16, .ref m17])), (m1, .inl (cI, 12, .inl (fun _ => (0 : Int32)))), (m2, .inl (cI, 12, .inl (fun _ => (0 : Int32)))), (m3, .inl (cI, 12, .inl (fun _ => (0 : Int32)))), (m4, .inl (cI, 24, .inl (fun _ => (-1 : Int32)))), (m5, .inl (cZ, 12, .inl (fun _ => (0 : Int32)))), (m7, .inl (cI, 12, .inl (fun _ => (1 : Int32))))]) := by
  refine WM.ofG cX6_aheadNow 7 (some .int) (by decide +kernel) rfl (Nat.le_of_ble_eq_true rfl) ?_
  intro p e s m below meth c A hA B hr hlocks hname hK hN
  refine g_aload_n B dX6_aheadNow_0 0 rfl ?_
  refine g_get (C := RX6) (T := TX6) (N := 18) (ci := 6) B hK hin_X6_aheadNow_RX6 0 rfl rfl 6 (by decide) (List.mem_of_getElem? (i := 1) rfl) rfl (v := .int (nI sd)) rfl dX6_aheadNow_1 ?_
  refine g_istore_n (lv' := [(0, .ref hm), (1, .int (nI a1)), (2, .int (nI sd))]) B dX6_aheadNow_4 rfl (by decide) [1, 2, 0] rfl ?_
  refine g_bipush (v := (113 : Int32)) B dX6_aheadNow_5 (by decide) ?_
  refine g_newa B hK hA 2 rfl rfl (List.mem_of_getElem? (i := 2) rfl) rfl (113, .inl (fun _ => (0 : Int32))) (cellZ_new 113) (by decide) (by decide) (by decide) (by decide) (by decide) dX6_aheadNow_7 (fun q1 => ?_)
  refine g_eqw (w2 := [(hm, .inr (6, [.int th, .ref m1, .ref m2, .ref m3, .ref m4, .ref m5, .int (nI sd), .ref m7, .int (0 : Int32), .ref m9, .ref m10, .ref m11, .ref m12, .ref m13, .int rl, .ref m15, .ref m16, .ref m17])), (m1, .inl (cI, 12, .inl (fun _ => (0 : Int32)))), (m2, .inl (cI, 12, .inl (fun _ => (0 : Int32)))), (m3, .inl (cI, 12, .inl (fun _ => (0 : Int32)))), (m4, .inl (cI, 24, .inl (fun _ => (-1 : Int32)))), (m5, .inl (cZ, 12, .inl (fun _ => (0 : Int32)))), (m7, .inl (cI, 12, .inl (fun _ => (1 : Int32)))), (q1, .inl (cZ, 113, .inl (fun _ => (0 : Int32))))]) rfl ?_
  refine g_astore_n (lv' := [(0, .ref hm), (1, .int (nI a1)), (2, .int (nI sd)), (3, .ref q1)]) B dX6_aheadNow_9 rfl (by decide) [1, 2, 3, 0] rfl ?_
  refine g_iconst (v := (0 : Int32)) B dX6_aheadNow_10 (by decide) ?_
  refine g_istore (lv' := [(0, .ref hm), (1, .int (nI a1)), (2, .int (nI sd)), (3, .ref q1), (4, .int (0 : Int32))]) B dX6_aheadNow_11 (by decide) [1, 2, 3, 4, 0] rfl ?_
  refine g_iconst (v := (0 : Int32)) B dX6_aheadNow_13 (by decide) ?_
  refine g_istore (lv' := [(0, .ref hm), (1, .int (nI a1)), (2, .int (nI sd)), (3, .ref q1), (4, .int (0 : Int32)), (5, .int (0 : Int32))]) B dX6_aheadNow_14 (by decide) [1, 2, 3, 4, 5, 0] rfl ?_
  refine g_widen (k := 1 + 2 * 0) (n := 113 + 33 * 0) (by (try dsimp only); omega) (by (try dsimp only); omega) ?_
  refine g_loop (σ := Nat × Nat × Nat × (Nat → Int32)) (fun x9 => x9.1 ≤ a1 ∧ x9.2.1 < 10000 ∧ (∀ z, x9.2.2.2 z = 0 ∨ x9.2.2.2 z = 1) ∧ ((x9.1 = 0 ∧ x9.2.2.1 = 0 ∧ x9.2.2.2 1 = 0) ∨ (0 < x9.1 ∧ x9.2.2.1 = 1 ∧ x9.2.2.2 1 = 1))) (fun x9 => a1 + 1 - x9.1) (fun x9 => 1 + 2 * x9.1) (fun x9 => 113 + 33 * x9.1) (fun x9 => [(hm, .inr (6, [.int th, .ref m1, .ref m2, .ref m3, .ref m4, .ref m5, .int (nI x9.2.1), .ref m7, .int (0 : Int32), .ref m9, .ref m10, .ref m11, .ref m12, .ref m13, .int rl, .ref m15, .ref m16, .ref m17])), (m1, .inl (cI, 12, .inl (fun _ => (0 : Int32)))), (m2, .inl (cI, 12, .inl (fun _ => (0 : Int32)))), (m3, .inl (cI, 12, .inl (fun _ => (0 : Int32)))), (m4, .inl (cI, 24, .inl (fun _ => (-1 : Int32)))), (m5, .inl (cZ, 12, .inl (fun _ => (0 : Int32)))), (m7, .inl (cI, 12, .inl (fun _ => (1 : Int32)))), (q1, .inl (cZ, 113, .inl x9.2.2.2))]) (fun x9 => [(0, .ref hm), (1, .int (nI a1)), (2, .int (nI sd)), (3, .ref q1), (4, .int (nI x9.2.2.1)), (5, .int (nI x9.1))]) (fun x9 hI ih16 => ?_) (0, sd, 0, (fun _ => 0)) (by exact ⟨by omega, hs, fun _ => Or.inl rfl, Or.inl ⟨rfl, rfl, rfl⟩⟩) rfl rfl rfl rfl
  obtain ⟨k, sd1, mn, mt⟩ := x9
  try dsimp only at hI ih16 ⊢
  obtain ⟨i1, i2, i3, i4⟩ := hI
  refine g_iload B dX6_aheadNow_16 5 rfl ?_
  refine g_iload_n B dX6_aheadNow_18 1 rfl ?_
  refine g_ncmp_ge (tgt := 60) B k a1 rfl rfl (by omega) (by omega) dX6_aheadNow_19 (by decide) (fun c2 => ?_) (fun c2 => ?_)
  · refine g_aload_n B dX6_aheadNow_60 0 rfl ?_
    refine g_iload_n B dX6_aheadNow_61 2 rfl ?_
    refine g_put (C := RX6) (T := TX6) (N := 18) (ci := 6) B hK hin_X6_aheadNow_RX6 0 rfl rfl 6 (by decide) tyX6 tyX6_ok nmX6 (List.mem_of_getElem? (i := 1) rfl) rfl rfl (ty := .int) (v := .int (nI sd)) (by decide +kernel) rfl rfl (Nat.le_of_ble_eq_true rfl) (w2 := [(hm, .inr (6, [.int th, .ref m1, .ref m2, .ref m3, .ref m4, .ref m5, .int (nI sd), .ref m7, .int (0 : Int32), .ref m9, .ref m10, .ref m11, .ref m12, .ref m13, .int rl, .ref m15, .ref m16, .ref m17])), (m1, .inl (cI, 12, .inl (fun _ => (0 : Int32)))), (m2, .inl (cI, 12, .inl (fun _ => (0 : Int32)))), (m3, .inl (cI, 12, .inl (fun _ => (0 : Int32)))), (m4, .inl (cI, 24, .inl (fun _ => (-1 : Int32)))), (m5, .inl (cZ, 12, .inl (fun _ => (0 : Int32)))), (m7, .inl (cI, 12, .inl (fun _ => (1 : Int32)))), (q1, .inl (cZ, 113, .inl mt))]) rfl (fun _ h => h) dX6_aheadNow_62 ?_
    refine g_iload B dX6_aheadNow_65 4 rfl ?_
    refine g_widen (k := 101) (n := 1763) (by (try dsimp only); omega) (by (try dsimp only); omega) ?_
    exact g_iret_w B hr rfl hlocks () (by have e9 : mn = 1 := (by omega); subst e9; rfl) (trivial) [0, 1, 2, 3, 4, 5, 6] (by decide) rfl dX6_aheadNow_67
  · refine g_aload_n B dX6_aheadNow_22 0 rfl ?_
    refine g_aload_n B dX6_aheadNow_23 0 rfl ?_
    refine g_callW (w2 := (fun (z9 : Nat × Nat) => [(hm, .inr (6, [.int th, .ref m1, .ref m2, .ref m3, .ref m4, .ref m5, .int (nI z9.2), .ref m7, .int (0 : Int32), .ref m9, .ref m10, .ref m11, .ref m12, .ref m13, .int rl, .ref m15, .ref m16, .ref m17])), (m1, .inl (cI, 12, .inl (fun _ => (0 : Int32)))), (m2, .inl (cI, 12, .inl (fun _ => (0 : Int32)))), (m3, .inl (cI, 12, .inl (fun _ => (0 : Int32)))), (m4, .inl (cI, 24, .inl (fun _ => (-1 : Int32)))), (m5, .inl (cZ, 12, .inl (fun _ => (0 : Int32)))), (m7, .inl (cI, 12, .inl (fun _ => (1 : Int32)))), (q1, .inl (cZ, 113, .inl mt))])) (g_runV (q0 := 0) (ci := 6) B hK rfl rfl (r_make_n l (D := D) (cI := cI) (cL := cL) (cZ := cZ) hm m1 m2 m3 m4 m5 m7 m9 m10 m11 m12 m13 m15 m16 m17 th (0 : Int32) rl sd1 (by omega)) (gPw.pre (av := [.ref hm]) (wc := [(hm, .inr (6, [.int th, .ref m1, .ref m2, .ref m3, .ref m4, .ref m5, .int (nI sd1), .ref m7, .int (0 : Int32), .ref m9, .ref m10, .ref m11, .ref m12, .ref m13, .int rl, .ref m15, .ref m16, .ref m17])), (m7, .inl (cI, 12, .inl (fun _ => (1 : Int32))))]) hK hN [0, 6] rfl (by decide)) gX6_aheadNow_X6_make rfl rfl kd_X6_make ⟨by decide, by decide⟩ (st := [.ref hm]) rfl (Nat.le_of_ble_eq_true rfl) dX6_aheadNow_24 ⟨by (try dsimp only); omega, by (try dsimp only); omega⟩) hA (fun _ h => h) [0, 6] [1, 2, 3, 4, 5, 7] (wr := [(m1, .inl (cI, 12, .inl (fun _ => (0 : Int32)))), (m2, .inl (cI, 12, .inl (fun _ => (0 : Int32)))), (m3, .inl (cI, 12, .inl (fun _ => (0 : Int32)))), (m4, .inl (cI, 24, .inl (fun _ => (-1 : Int32)))), (m5, .inl (cZ, 12, .inl (fun _ => (0 : Int32)))), (q1, .inl (cZ, 113, .inl mt))]) rfl rfl (by decide) (by decide) [6, 0, 1, 2, 3, 4, 7, 5] (by decide) (fun _ => rfl) (fun u hu => ?_)
    obtain ⟨c2_3, sd2_3⟩ := u
    try dsimp only at hu ⊢
    have hu3 := hu
    refine g_callW (w2 := (fun (_ : Unit) => [(hm, .inr (6, [.int th, .ref m1, .ref m2, .ref m3, .ref m4, .ref m5, .int (nI sd2_3), .ref m7, .int (0 : Int32), .ref m9, .ref m10, .ref m11, .ref m12, .ref m13, .int rl, .ref m15, .ref m16, .ref m17])), (m1, .inl (cI, 12, .inl (fun _ => (0 : Int32)))), (m2, .inl (cI, 12, .inl (fun _ => (0 : Int32)))), (m3, .inl (cI, 12, .inl (fun _ => (0 : Int32)))), (m4, .inl (cI, 24, .inl (fun _ => (-1 : Int32)))), (m5, .inl (cZ, 12, .inl (fun _ => (0 : Int32)))), (m7, .inl (cI, 12, .inl (fun _ => (1 : Int32)))), (q1, .inl (cZ, 113, .inl mt))])) (g_runV (q0 := 0) (ci := 6) B hK rfl rfl (r_resultOf l (D := D) (cI := cI) (cL := cL) (cZ := cZ) hm m1 m2 m3 m4 m5 m7 m9 m10 m11 m12 m13 m15 m16 m17 th (nI sd2_3) (0 : Int32) rl c2_3 (by omega)) (gPw.pre (av := [.ref hm, .int (nI c2_3)]) (wc := [(hm, .inr (6, [.int th, .ref m1, .ref m2, .ref m3, .ref m4, .ref m5, .int (nI sd2_3), .ref m7, .int (0 : Int32), .ref m9, .ref m10, .ref m11, .ref m12, .ref m13, .int rl, .ref m15, .ref m16, .ref m17])), (m1, .inl (cI, 12, .inl (fun _ => (0 : Int32)))), (m2, .inl (cI, 12, .inl (fun _ => (0 : Int32)))), (m3, .inl (cI, 12, .inl (fun _ => (0 : Int32)))), (m4, .inl (cI, 24, .inl (fun _ => (-1 : Int32)))), (m5, .inl (cZ, 12, .inl (fun _ => (0 : Int32))))]) hK hN [0, 1, 2, 3, 4, 5] rfl (by decide)) gX6_aheadNow_X6_resultOf rfl rfl kd_X6_resultOf ⟨by decide, by decide⟩ (st := []) rfl (Nat.le_of_ble_eq_true rfl) dX6_aheadNow_27 ⟨by (try dsimp only); omega, by (try dsimp only); omega⟩) hA (fun _ h => h) [0, 1, 2, 3, 4, 5] [6, 7] (wr := [(m7, .inl (cI, 12, .inl (fun _ => (1 : Int32)))), (q1, .inl (cZ, 113, .inl mt))]) rfl rfl (by decide) (by decide) [2, 3, 4, 5, 6, 7, 0, 1] (by decide) (fun _ => rfl) (fun u hu => ?_)
    refine g_istore (lv' := [(0, .ref hm), (1, .int (nI a1)), (2, .int (nI sd)), (3, .ref q1), (4, .int (nI mn)), (5, .int (nI k)), (6, .int (1 : Int32))]) B dX6_aheadNow_30 (by decide) [1, 2, 3, 4, 5, 6, 0] rfl ?_
    refine g_iload B dX6_aheadNow_32 4 rfl ?_
    refine g_aload_n B dX6_aheadNow_34 3 rfl ?_
    refine g_iload B dX6_aheadNow_35 6 rfl ?_
    refine g_zald B hK 7 2 rfl rfl 1 rfl (by omega) (by omega) (v := (mt 1)) rfl dX6_aheadNow_37 ?_
    refine g_if_eq (tgt := 45) B dX6_aheadNow_38 (by decide) (fun c5 => ?_) (fun c5 => ?_)
    · refine g_iconst (v := (1 : Int32)) B dX6_aheadNow_45 (by decide) ?_
      refine g_iadd (v := nI (mn + 1)) B dX6_aheadNow_46 (nI_add mn 1) ?_
      refine g_istore (lv' := [(0, .ref hm), (1, .int (nI a1)), (2, .int (nI sd)), (3, .ref q1), (4, .int (nI (mn + 1))), (5, .int (nI k)), (6, .int (1 : Int32))]) B dX6_aheadNow_47 (by decide) [1, 2, 3, 4, 0, 5, 6] rfl ?_
      refine g_aload_n B dX6_aheadNow_49 3 rfl ?_
      refine g_iload B dX6_aheadNow_50 6 rfl ?_
      refine g_iconst (v := (1 : Int32)) B dX6_aheadNow_52 (by decide) ?_
      refine g_zast B hK 7 2 rfl rfl 1 rfl (by omega) (by omega) (f2 := (upd mt 1 (1 : Int32))) (rfl) (w2 := [(hm, .inr (6, [.int th, .ref m1, .ref m2, .ref m3, .ref m4, .ref m5, .int (nI sd2_3), .ref m7, .int (0 : Int32), .ref m9, .ref m10, .ref m11, .ref m12, .ref m13, .int rl, .ref m15, .ref m16, .ref m17])), (m1, .inl (cI, 12, .inl (fun _ => (0 : Int32)))), (m2, .inl (cI, 12, .inl (fun _ => (0 : Int32)))), (m3, .inl (cI, 12, .inl (fun _ => (0 : Int32)))), (m4, .inl (cI, 24, .inl (fun _ => (-1 : Int32)))), (m5, .inl (cZ, 12, .inl (fun _ => (0 : Int32)))), (m7, .inl (cI, 12, .inl (fun _ => (1 : Int32)))), (q1, .inl (cZ, 113, .inl (upd mt 1 (1 : Int32))))]) rfl (fun _ h => h) dX6_aheadNow_53 ?_
      refine g_iinc (lv' := [(0, .ref hm), (1, .int (nI a1)), (2, .int (nI sd)), (3, .ref q1), (4, .int (nI (mn + 1))), (5, .int (nI (k + 1))), (6, .int (1 : Int32))]) B dX6_aheadNow_54 5 rfl (nI_1 k) (by decide) [1, 2, 3, 4, 5, 0, 6] rfl ?_
      refine g_goto (tgt := 16) B dX6_aheadNow_57 (by decide) ?_
      refine g_widen (k := 1 + 2 * (k + 1)) (n := 113 + 33 * (k + 1)) (by (try dsimp only); omega) (by (try dsimp only); omega) ?_
      exact g_pick [0, 1, 2, 3, 4, 5] rfl (ih16 (k + 1, sd2_3, mn + 1, (upd mt 1 (1 : Int32))) (by (try dsimp only); exact ⟨by omega, by omega, fun z => by by_cases h : z = 1 <;> simp [upd, h, i3 z], Or.inr ⟨by omega, by rcases i4 with ⟨q1, q2, q3⟩ | ⟨q1, q2, q3⟩ <;> simp_all, by simp [upd]⟩⟩) (by (try dsimp only); omega))
    · refine g_iconst (v := (0 : Int32)) B dX6_aheadNow_41 (by decide) ?_
      refine g_goto (tgt := 46) B dX6_aheadNow_42 (by decide) ?_
      refine g_iadd (v := nI mn) B dX6_aheadNow_46 (nI_add mn 0) ?_
      refine g_istore (lv' := [(0, .ref hm), (1, .int (nI a1)), (2, .int (nI sd)), (3, .ref q1), (4, .int (nI mn)), (5, .int (nI k)), (6, .int (1 : Int32))]) B dX6_aheadNow_47 (by decide) [1, 2, 3, 4, 0, 5, 6] rfl ?_
      refine g_aload_n B dX6_aheadNow_49 3 rfl ?_
      refine g_iload B dX6_aheadNow_50 6 rfl ?_
      refine g_iconst (v := (1 : Int32)) B dX6_aheadNow_52 (by decide) ?_
      refine g_zast B hK 7 2 rfl rfl 1 rfl (by omega) (by omega) (f2 := (upd mt 1 (1 : Int32))) (rfl) (w2 := [(hm, .inr (6, [.int th, .ref m1, .ref m2, .ref m3, .ref m4, .ref m5, .int (nI sd2_3), .ref m7, .int (0 : Int32), .ref m9, .ref m10, .ref m11, .ref m12, .ref m13, .int rl, .ref m15, .ref m16, .ref m17])), (m1, .inl (cI, 12, .inl (fun _ => (0 : Int32)))), (m2, .inl (cI, 12, .inl (fun _ => (0 : Int32)))), (m3, .inl (cI, 12, .inl (fun _ => (0 : Int32)))), (m4, .inl (cI, 24, .inl (fun _ => (-1 : Int32)))), (m5, .inl (cZ, 12, .inl (fun _ => (0 : Int32)))), (m7, .inl (cI, 12, .inl (fun _ => (1 : Int32)))), (q1, .inl (cZ, 113, .inl (upd mt 1 (1 : Int32))))]) rfl (fun _ h => h) dX6_aheadNow_53 ?_
      refine g_iinc (lv' := [(0, .ref hm), (1, .int (nI a1)), (2, .int (nI sd)), (3, .ref q1), (4, .int (nI mn)), (5, .int (nI (k + 1))), (6, .int (1 : Int32))]) B dX6_aheadNow_54 5 rfl (nI_1 k) (by decide) [1, 2, 3, 4, 5, 0, 6] rfl ?_
      refine g_goto (tgt := 16) B dX6_aheadNow_57 (by decide) ?_
      refine g_widen (k := 1 + 2 * (k + 1)) (n := 113 + 33 * (k + 1)) (by (try dsimp only); omega) (by (try dsimp only); omega) ?_
      exact g_pick [0, 1, 2, 3, 4, 5] rfl (ih16 (k + 1, sd2_3, mn, (upd mt 1 (1 : Int32))) (by (try dsimp only); exact ⟨by omega, by omega, fun z => by by_cases h : z = 1 <;> simp [upd, h, i3 z], Or.inr ⟨by omega, by rcases i4 with ⟨q1, q2, q3⟩ | ⟨q1, q2, q3⟩ <;> simp_all, by simp [upd]⟩⟩) (by (try dsimp only); omega))

set_option maxHeartbeats 4000000 in
set_option maxRecDepth 100000 in
theorem r_ahead_x0 (l : Launch) {D : va_G} {cI cL cZ : ClassId} (hm : Nat) (m1 : Nat) (m2 : Nat) (m3 : Nat) (m4 : Nat) (m5 : Nat) (m7 : Nat) (m9 : Nat) (m10 : Nat) (m11 : Nat) (m12 : Nat) (m13 : Nat) (m15 : Nat) (m16 : Nat) (m17 : Nat) (th : Int32) (rl : Int32) (a1 : Int32) (h1 : inR a1 1 50 = false) : WM l yX6_ahead wsX6_ahead ({ frames := 1, cells := 0, slots := 0, locals := 22 } : Room) D (gTys cI cL cZ) [.ref hm, .int a1] [(hm, .inr (6, [.int th, .ref m1, .ref m2, .ref m3, .ref m4, .ref m5, .int (1 : Int32), .ref m7, .int (0 : Int32), .ref m9, .ref m10, .ref m11, .ref m12, .ref m13, .int rl, .ref m15, .ref m16, .ref m17]))] (fun (_ : Unit) => True) (fun (_ : Unit) => some (.int (0 : Int32))) (fun (_ : Unit) => [(hm, .inr (6, [.int (1 : Int32), .ref m1, .ref m2, .ref m3, .ref m4, .ref m5, .int (1 : Int32), .ref m7, .int (0 : Int32), .ref m9, .ref m10, .ref m11, .ref m12, .ref m13, .int rl, .ref m15, .ref m16, .ref m17]))]) := by
  refine WM.ofG cX6_ahead 2 (some .int) (by decide +kernel) rfl (Nat.le_of_ble_eq_true rfl) ?_
  intro p e s m below meth c A hA B hr hlocks hname hK hN
  refine g_aload_n B dX6_ahead_0 0 rfl ?_
  refine g_iconst (v := (0 : Int32)) B dX6_ahead_1 (by decide) ?_
  refine g_put (C := RX6) (T := TX6) (N := 18) (ci := 6) B hK hin_X6_ahead_RX6 0 rfl rfl 0 (by decide) tyX6 tyX6_ok nmX6 (List.mem_of_getElem? (i := 1) rfl) rfl rfl (ty := .int) (v := .int (0 : Int32)) (by decide +kernel) rfl rfl (Nat.le_of_ble_eq_true rfl) (w2 := [(hm, .inr (6, [.int (0 : Int32), .ref m1, .ref m2, .ref m3, .ref m4, .ref m5, .int (1 : Int32), .ref m7, .int (0 : Int32), .ref m9, .ref m10, .ref m11, .ref m12, .ref m13, .int rl, .ref m15, .ref m16, .ref m17]))]) rfl (fun _ h => h) dX6_ahead_2 ?_
  refine g_iload_n B dX6_ahead_5 1 rfl ?_
  refine g_iconst (v := (1 : Int32)) B dX6_ahead_6 (by decide) ?_
  refine g_bipush (v := (50 : Int32)) B dX6_ahead_7 (by decide) ?_
  refine g_callP (g_runS B (PM.met (r_isIn_f l (D := D) (cI := cI) (cL := cL) (cZ := cZ) a1 (1 : Int32) (50 : Int32) (by first | assumption | exact hy (by assumption) | exact hz (by assumption)))) (gPp.pre (av := [.int a1, .int (1 : Int32), .int (50 : Int32)]) (wc := []) hK hN [] rfl (by decide)) gX6_ahead_X6_isIn rfl kd_X6_isIn ⟨by decide, by decide⟩ (st := []) rfl (Nat.le_of_ble_eq_true rfl) dX6_ahead_9 ⟨by decide, by decide⟩) (fun u hu => ?_)
  refine g_if_eq (tgt := 23) B dX6_ahead_12 (by decide) (fun _ => ?_) (fun c2 => absurd (by decide) c2)
  refine g_aload_n B dX6_ahead_23 0 rfl ?_
  refine g_iconst (v := (1 : Int32)) B dX6_ahead_24 (by decide) ?_
  refine g_callW (w2 := (fun (_ : Unit) => [(hm, .inr (6, [.int (1 : Int32), .ref m1, .ref m2, .ref m3, .ref m4, .ref m5, .int (1 : Int32), .ref m7, .int (0 : Int32), .ref m9, .ref m10, .ref m11, .ref m12, .ref m13, .int rl, .ref m15, .ref m16, .ref m17]))])) (g_runV (q0 := 0) (ci := 6) B hK rfl rfl (r_no l (D := D) (cI := cI) (cL := cL) (cZ := cZ) hm m1 m2 m3 m4 m5 m7 m9 m10 m11 m12 m13 m15 m16 m17 (0 : Int32) (1 : Int32) (0 : Int32) rl (1 : Int32) ) (gPw.pre (av := [.ref hm, .int (1 : Int32)]) (wc := [(hm, .inr (6, [.int (0 : Int32), .ref m1, .ref m2, .ref m3, .ref m4, .ref m5, .int (1 : Int32), .ref m7, .int (0 : Int32), .ref m9, .ref m10, .ref m11, .ref m12, .ref m13, .int rl, .ref m15, .ref m16, .ref m17]))]) hK hN [0] rfl (by decide)) gX6_ahead_X6_no rfl rfl kd_X6_no ⟨by decide, by decide⟩ (st := []) rfl (Nat.le_of_ble_eq_true rfl) dX6_ahead_25 ⟨by decide, by decide⟩) hA (fun _ h => h) [0] [] (wr := []) rfl rfl (by decide) (by decide) [0] (by decide) (fun _ => rfl) (fun u hu => ?_)
  exact g_iret_w B hr rfl hlocks () (rfl) (trivial) [0] (by decide) rfl dX6_ahead_28

set_option maxHeartbeats 4000000 in
set_option maxRecDepth 100000 in
theorem r_ahead_v (l : Launch) {D : va_G} {cI cL cZ : ClassId} (hm : Nat) (m1 : Nat) (m2 : Nat) (m3 : Nat) (m4 : Nat) (m5 : Nat) (m7 : Nat) (m9 : Nat) (m10 : Nat) (m11 : Nat) (m12 : Nat) (m13 : Nat) (m15 : Nat) (m16 : Nat) (m17 : Nat) (th : Int32) (rl : Int32) (a1 : Nat) (h1 : 0 < a1) (h2 : a1 ≤ 50) : WM l yX6_ahead wsX6_ahead ({ frames := 6, cells := 101, slots := 1763, locals := 138 } : Room) D (gTys cI cL cZ) [.ref hm, .int (nI a1)] [(hm, .inr (6, [.int th, .ref m1, .ref m2, .ref m3, .ref m4, .ref m5, .int (1 : Int32), .ref m7, .int (0 : Int32), .ref m9, .ref m10, .ref m11, .ref m12, .ref m13, .int rl, .ref m15, .ref m16, .ref m17])), (m1, .inl (cI, 12, .inl (fun _ => (0 : Int32)))), (m2, .inl (cI, 12, .inl (fun _ => (0 : Int32)))), (m3, .inl (cI, 12, .inl (fun _ => (0 : Int32)))), (m4, .inl (cI, 24, .inl (fun _ => (-1 : Int32)))), (m5, .inl (cZ, 12, .inl (fun _ => (0 : Int32)))), (m7, .inl (cI, 12, .inl (fun _ => (1 : Int32))))] (fun (_ : Unit) => True) (fun (_ : Unit) => some (.int (1 : Int32))) (fun (_ : Unit) => [(hm, .inr (6, [.int (0 : Int32), .ref m1, .ref m2, .ref m3, .ref m4, .ref m5, .int (1 : Int32), .ref m7, .int (0 : Int32), .ref m9, .ref m10, .ref m11, .ref m12, .ref m13, .int rl, .ref m15, .ref m16, .ref m17]))]) := by
  refine WM.ofG cX6_ahead 2 (some .int) (by decide +kernel) rfl (Nat.le_of_ble_eq_true rfl) ?_
  intro p e s m below meth c A hA B hr hlocks hname hK hN
  refine g_aload_n B dX6_ahead_0 0 rfl ?_
  refine g_iconst (v := (0 : Int32)) B dX6_ahead_1 (by decide) ?_
  refine g_put (C := RX6) (T := TX6) (N := 18) (ci := 6) B hK hin_X6_ahead_RX6 0 rfl rfl 0 (by decide) tyX6 tyX6_ok nmX6 (List.mem_of_getElem? (i := 1) rfl) rfl rfl (ty := .int) (v := .int (0 : Int32)) (by decide +kernel) rfl rfl (Nat.le_of_ble_eq_true rfl) (w2 := [(hm, .inr (6, [.int (0 : Int32), .ref m1, .ref m2, .ref m3, .ref m4, .ref m5, .int (1 : Int32), .ref m7, .int (0 : Int32), .ref m9, .ref m10, .ref m11, .ref m12, .ref m13, .int rl, .ref m15, .ref m16, .ref m17])), (m1, .inl (cI, 12, .inl (fun _ => (0 : Int32)))), (m2, .inl (cI, 12, .inl (fun _ => (0 : Int32)))), (m3, .inl (cI, 12, .inl (fun _ => (0 : Int32)))), (m4, .inl (cI, 24, .inl (fun _ => (-1 : Int32)))), (m5, .inl (cZ, 12, .inl (fun _ => (0 : Int32)))), (m7, .inl (cI, 12, .inl (fun _ => (1 : Int32))))]) rfl (fun _ h => h) dX6_ahead_2 ?_
  refine g_iload_n B dX6_ahead_5 1 rfl ?_
  refine g_iconst (v := (1 : Int32)) B dX6_ahead_6 (by decide) ?_
  refine g_bipush (v := (50 : Int32)) B dX6_ahead_7 (by decide) ?_
  refine g_callP (g_runS B (PM.met (r_isIn_n l (D := D) (cI := cI) (cL := cL) (cZ := cZ) a1 1 50 (by omega) (by omega) (by omega))) (gPp.pre (av := [.int (nI a1), .int (1 : Int32), .int (50 : Int32)]) (wc := []) hK hN [] rfl (by decide)) gX6_ahead_X6_isIn rfl kd_X6_isIn ⟨by decide, by decide⟩ (st := []) rfl (Nat.le_of_ble_eq_true rfl) dX6_ahead_9 ⟨by decide, by decide⟩) (fun u hu => ?_)
  refine g_if_eq (tgt := 23) B dX6_ahead_12 (by decide) (fun c2 => absurd c2 (by decide)) (fun _ => ?_)
  refine g_aload_n B dX6_ahead_15 0 rfl ?_
  refine g_iload_n B dX6_ahead_16 1 rfl ?_
  refine g_callW (w2 := (fun (_ : Unit) => [(hm, .inr (6, [.int (0 : Int32), .ref m1, .ref m2, .ref m3, .ref m4, .ref m5, .int (1 : Int32), .ref m7, .int (0 : Int32), .ref m9, .ref m10, .ref m11, .ref m12, .ref m13, .int rl, .ref m15, .ref m16, .ref m17])), (m1, .inl (cI, 12, .inl (fun _ => (0 : Int32)))), (m2, .inl (cI, 12, .inl (fun _ => (0 : Int32)))), (m3, .inl (cI, 12, .inl (fun _ => (0 : Int32)))), (m4, .inl (cI, 24, .inl (fun _ => (-1 : Int32)))), (m5, .inl (cZ, 12, .inl (fun _ => (0 : Int32)))), (m7, .inl (cI, 12, .inl (fun _ => (1 : Int32))))])) (g_runV (q0 := 0) (ci := 6) B hK rfl rfl (r_aheadNow_n l (D := D) (cI := cI) (cL := cL) (cZ := cZ) hm m1 m2 m3 m4 m5 m7 m9 m10 m11 m12 m13 m15 m16 m17 (0 : Int32) rl 1 a1 (by omega) (by omega) (by omega)) (gPw.pre (av := [.ref hm, .int (nI a1)]) (wc := [(hm, .inr (6, [.int (0 : Int32), .ref m1, .ref m2, .ref m3, .ref m4, .ref m5, .int (1 : Int32), .ref m7, .int (0 : Int32), .ref m9, .ref m10, .ref m11, .ref m12, .ref m13, .int rl, .ref m15, .ref m16, .ref m17])), (m1, .inl (cI, 12, .inl (fun _ => (0 : Int32)))), (m2, .inl (cI, 12, .inl (fun _ => (0 : Int32)))), (m3, .inl (cI, 12, .inl (fun _ => (0 : Int32)))), (m4, .inl (cI, 24, .inl (fun _ => (-1 : Int32)))), (m5, .inl (cZ, 12, .inl (fun _ => (0 : Int32)))), (m7, .inl (cI, 12, .inl (fun _ => (1 : Int32))))]) hK hN [0, 1, 2, 3, 4, 5, 6] rfl (by decide)) gX6_ahead_X6_aheadNow rfl rfl kd_X6_aheadNow ⟨by decide, by decide⟩ (st := []) rfl (Nat.le_of_ble_eq_true rfl) dX6_ahead_17 ⟨by decide, by decide⟩) hA (fun _ h => h) [0, 1, 2, 3, 4, 5, 6] [] (wr := []) rfl rfl (by decide) (by decide) [0, 1, 2, 3, 4, 5, 6] (by decide) (fun _ => rfl) (fun u hu => ?_)
  refine g_goto (tgt := 28) B dX6_ahead_20 (by decide) ?_
  refine g_widen (k := 101) (n := 1763) (by (try dsimp only); omega) (by (try dsimp only); omega) ?_
  exact g_iret_w B hr rfl hlocks () (rfl) (trivial) [0] (by decide) rfl dX6_ahead_28

set_option maxHeartbeats 4000000 in
set_option maxRecDepth 100000 in
theorem r_digest_v (l : Launch) {D : va_G} {cI cL cZ : ClassId} (hm : Nat) (m1 : Nat) (m2 : Nat) (m3 : Nat) (m4 : Nat) (m5 : Nat) (m7 : Nat) (m9 : Nat) (m10 : Nat) (m11 : Nat) (m12 : Nat) (m13 : Nat) (m15 : Nat) (m16 : Nat) (m17 : Nat) (th : Int32)  : WM l yX6_digest wsX6_digest ({ frames := 6, cells := 191, slots := 3483, locals := 140 } : Room) D (gTys cI cL cZ) [.ref hm] [(hm, .inr (6, [.int th, .ref m1, .ref m2, .ref m3, .ref m4, .ref m5, .int (1 : Int32), .ref m7, .int (0 : Int32), .ref m9, .ref m10, .ref m11, .ref m12, .ref m13, .int (0 : Int32), .ref m15, .ref m16, .ref m17])), (m1, .inl (cI, 12, .inl (fun _ => (0 : Int32)))), (m2, .inl (cI, 12, .inl (fun _ => (0 : Int32)))), (m3, .inl (cI, 12, .inl (fun _ => (0 : Int32)))), (m4, .inl (cI, 24, .inl (fun _ => (-1 : Int32)))), (m5, .inl (cZ, 12, .inl (fun _ => (0 : Int32)))), (m7, .inl (cI, 12, .inl (fun _ => (1 : Int32)))), (m13, .inl (cZ, 40, .inl (fun _ => (0 : Int32))))] (fun (_ : Unit) => True) (fun (_ : Unit) => some (.long (1527246830044034637 : Int64))) (fun (_ : Unit) => [(hm, .inr (6, [.int (0 : Int32), .ref m1, .ref m2, .ref m3, .ref m4, .ref m5, .int (1 : Int32), .ref m7, .int (0 : Int32), .ref m9, .ref m10, .ref m11, .ref m12, .ref m13, .int (0 : Int32), .ref m15, .ref m16, .ref m17]))]) := by
  refine WM.ofG cX6_digest 5 (some .long) (by decide +kernel) rfl (Nat.le_of_ble_eq_true rfl) ?_
  intro p e s m below meth c A hA B hr hlocks hname hK hN
  refine g_aload_n B dX6_digest_0 0 rfl ?_
  refine g_iconst (v := (0 : Int32)) B dX6_digest_1 (by decide) ?_
  refine g_put (C := RX6) (T := TX6) (N := 18) (ci := 6) B hK hin_X6_digest_RX6 0 rfl rfl 0 (by decide) tyX6 tyX6_ok nmX6 (List.mem_of_getElem? (i := 1) rfl) rfl rfl (ty := .int) (v := .int (0 : Int32)) (by decide +kernel) rfl rfl (Nat.le_of_ble_eq_true rfl) (w2 := [(hm, .inr (6, [.int (0 : Int32), .ref m1, .ref m2, .ref m3, .ref m4, .ref m5, .int (1 : Int32), .ref m7, .int (0 : Int32), .ref m9, .ref m10, .ref m11, .ref m12, .ref m13, .int (0 : Int32), .ref m15, .ref m16, .ref m17])), (m1, .inl (cI, 12, .inl (fun _ => (0 : Int32)))), (m2, .inl (cI, 12, .inl (fun _ => (0 : Int32)))), (m3, .inl (cI, 12, .inl (fun _ => (0 : Int32)))), (m4, .inl (cI, 24, .inl (fun _ => (-1 : Int32)))), (m5, .inl (cZ, 12, .inl (fun _ => (0 : Int32)))), (m7, .inl (cI, 12, .inl (fun _ => (1 : Int32)))), (m13, .inl (cZ, 40, .inl (fun _ => (0 : Int32))))]) rfl (fun _ h => h) dX6_digest_2 ?_
  refine g_ldc2 (v := (5740 : Int64)) B dX6_digest_5 (List.mem_of_getElem? (i := 2) rfl) ?_
  refine g_lstore_n (lv' := [(0, .ref hm), (1, .long (5740 : Int64))]) B dX6_digest_8 rfl (by decide) [1, 0] rfl ?_
  refine g_iconst (v := (0 : Int32)) B dX6_digest_9 (by decide) ?_
  refine g_istore_n (lv' := [(0, .ref hm), (1, .long (5740 : Int64)), (3, .int (0 : Int32))]) B dX6_digest_10 rfl (by decide) [1, 2, 0] rfl ?_
  refine g_iload_n B dX6_digest_11 2 rfl ?_
  refine g_bipush (v := (8 : Int32)) B dX6_digest_12 (by decide) ?_
  refine g_icmp_ge (tgt := 36) B dX6_digest_14 (by decide) (fun c1 => absurd c1 (by decide)) (fun _ => ?_)
  refine g_lload_n B dX6_digest_17 1 rfl ?_
  refine g_ldc2 (v := (31 : Int64)) B dX6_digest_18 (List.mem_of_getElem? (i := 3) rfl) ?_
  refine g_lmul (v := (177940 : Int64)) B dX6_digest_21 (by decide) ?_
  refine g_aload_n B dX6_digest_22 0 rfl ?_
  refine g_iload_n B dX6_digest_23 2 rfl ?_
  refine g_callP (g_runV (q0 := 0) (ci := 6) B hK rfl rfl (PM.met (r_manyNow_0 l (D := D) (cI := cI) (cL := cL) (cZ := cZ) hm m1 m2 m3 m4 m5 m7 m9 m10 m11 m12 m13 m15 m16 m17 (0 : Int32) (1 : Int32) (0 : Int32) )) (gPp.pre (av := [.ref hm, .int (0 : Int32)]) (wc := [(hm, .inr (6, [.int (0 : Int32), .ref m1, .ref m2, .ref m3, .ref m4, .ref m5, .int (1 : Int32), .ref m7, .int (0 : Int32), .ref m9, .ref m10, .ref m11, .ref m12, .ref m13, .int (0 : Int32), .ref m15, .ref m16, .ref m17]))]) hK hN [0] rfl (by decide)) gX6_digest_X6_manyNow rfl rfl kd_X6_manyNow ⟨by decide, by decide⟩ (st := [.long (177940 : Int64)]) rfl (Nat.le_of_ble_eq_true rfl) dX6_digest_24 ⟨by decide, by decide⟩) (fun u hu => ?_)
  refine g_i2l (v := (0 : Int64)) B dX6_digest_27 (by decide) ?_
  refine g_ladd (v := (177940 : Int64)) B dX6_digest_28 (by decide) ?_
  refine g_lstore_n (lv' := [(0, .ref hm), (1, .long (177940 : Int64)), (3, .int (0 : Int32))]) B dX6_digest_29 rfl (by decide) [1, 0, 2] rfl ?_
  refine g_iinc (lv' := [(0, .ref hm), (1, .long (177940 : Int64)), (3, .int (1 : Int32))]) B dX6_digest_30 2 rfl (by decide) (by decide) [1, 2, 0] rfl ?_
  refine g_goto (tgt := 11) B dX6_digest_33 (by decide) ?_
  refine g_iload_n B dX6_digest_11 2 rfl ?_
  refine g_bipush (v := (8 : Int32)) B dX6_digest_12 (by decide) ?_
  refine g_icmp_ge (tgt := 36) B dX6_digest_14 (by decide) (fun c3 => absurd c3 (by decide)) (fun _ => ?_)
  refine g_lload_n B dX6_digest_17 1 rfl ?_
  refine g_ldc2 (v := (31 : Int64)) B dX6_digest_18 (List.mem_of_getElem? (i := 3) rfl) ?_
  refine g_lmul (v := (5516140 : Int64)) B dX6_digest_21 (by decide) ?_
  refine g_aload_n B dX6_digest_22 0 rfl ?_
  refine g_iload_n B dX6_digest_23 2 rfl ?_
  refine g_callP (g_runV (q0 := 0) (ci := 6) B hK rfl rfl (PM.met (r_manyNow_1 l (D := D) (cI := cI) (cL := cL) (cZ := cZ) hm m1 m2 m3 m4 m5 m7 m9 m10 m11 m12 m13 m15 m16 m17 (0 : Int32) (1 : Int32) (0 : Int32) )) (gPp.pre (av := [.ref hm, .int (1 : Int32)]) (wc := [(hm, .inr (6, [.int (0 : Int32), .ref m1, .ref m2, .ref m3, .ref m4, .ref m5, .int (1 : Int32), .ref m7, .int (0 : Int32), .ref m9, .ref m10, .ref m11, .ref m12, .ref m13, .int (0 : Int32), .ref m15, .ref m16, .ref m17]))]) hK hN [0] rfl (by decide)) gX6_digest_X6_manyNow rfl rfl kd_X6_manyNow ⟨by decide, by decide⟩ (st := [.long (5516140 : Int64)]) rfl (Nat.le_of_ble_eq_true rfl) dX6_digest_24 ⟨by decide, by decide⟩) (fun u hu => ?_)
  refine g_i2l (v := (0 : Int64)) B dX6_digest_27 (by decide) ?_
  refine g_ladd (v := (5516140 : Int64)) B dX6_digest_28 (by decide) ?_
  refine g_lstore_n (lv' := [(0, .ref hm), (1, .long (5516140 : Int64)), (3, .int (1 : Int32))]) B dX6_digest_29 rfl (by decide) [1, 0, 2] rfl ?_
  refine g_iinc (lv' := [(0, .ref hm), (1, .long (5516140 : Int64)), (3, .int (2 : Int32))]) B dX6_digest_30 2 rfl (by decide) (by decide) [1, 2, 0] rfl ?_
  refine g_goto (tgt := 11) B dX6_digest_33 (by decide) ?_
  refine g_iload_n B dX6_digest_11 2 rfl ?_
  refine g_bipush (v := (8 : Int32)) B dX6_digest_12 (by decide) ?_
  refine g_icmp_ge (tgt := 36) B dX6_digest_14 (by decide) (fun c5 => absurd c5 (by decide)) (fun _ => ?_)
  refine g_lload_n B dX6_digest_17 1 rfl ?_
  refine g_ldc2 (v := (31 : Int64)) B dX6_digest_18 (List.mem_of_getElem? (i := 3) rfl) ?_
  refine g_lmul (v := (171000340 : Int64)) B dX6_digest_21 (by decide) ?_
  refine g_aload_n B dX6_digest_22 0 rfl ?_
  refine g_iload_n B dX6_digest_23 2 rfl ?_
  refine g_callP (g_runV (q0 := 0) (ci := 6) B hK rfl rfl (PM.met (r_manyNow_2 l (D := D) (cI := cI) (cL := cL) (cZ := cZ) hm m1 m2 m3 m4 m5 m7 m9 m10 m11 m12 m13 m15 m16 m17 (0 : Int32) (1 : Int32) (0 : Int32) )) (gPp.pre (av := [.ref hm, .int (2 : Int32)]) (wc := [(hm, .inr (6, [.int (0 : Int32), .ref m1, .ref m2, .ref m3, .ref m4, .ref m5, .int (1 : Int32), .ref m7, .int (0 : Int32), .ref m9, .ref m10, .ref m11, .ref m12, .ref m13, .int (0 : Int32), .ref m15, .ref m16, .ref m17]))]) hK hN [0] rfl (by decide)) gX6_digest_X6_manyNow rfl rfl kd_X6_manyNow ⟨by decide, by decide⟩ (st := [.long (171000340 : Int64)]) rfl (Nat.le_of_ble_eq_true rfl) dX6_digest_24 ⟨by decide, by decide⟩) (fun u hu => ?_)
  refine g_i2l (v := (0 : Int64)) B dX6_digest_27 (by decide) ?_
  refine g_ladd (v := (171000340 : Int64)) B dX6_digest_28 (by decide) ?_
  refine g_lstore_n (lv' := [(0, .ref hm), (1, .long (171000340 : Int64)), (3, .int (2 : Int32))]) B dX6_digest_29 rfl (by decide) [1, 0, 2] rfl ?_
  refine g_iinc (lv' := [(0, .ref hm), (1, .long (171000340 : Int64)), (3, .int (3 : Int32))]) B dX6_digest_30 2 rfl (by decide) (by decide) [1, 2, 0] rfl ?_
  refine g_goto (tgt := 11) B dX6_digest_33 (by decide) ?_
  refine g_iload_n B dX6_digest_11 2 rfl ?_
  refine g_bipush (v := (8 : Int32)) B dX6_digest_12 (by decide) ?_
  refine g_icmp_ge (tgt := 36) B dX6_digest_14 (by decide) (fun c7 => absurd c7 (by decide)) (fun _ => ?_)
  refine g_lload_n B dX6_digest_17 1 rfl ?_
  refine g_ldc2 (v := (31 : Int64)) B dX6_digest_18 (List.mem_of_getElem? (i := 3) rfl) ?_
  refine g_lmul (v := (5301010540 : Int64)) B dX6_digest_21 (by decide) ?_
  refine g_aload_n B dX6_digest_22 0 rfl ?_
  refine g_iload_n B dX6_digest_23 2 rfl ?_
  refine g_callP (g_runV (q0 := 0) (ci := 6) B hK rfl rfl (PM.met (r_manyNow_3 l (D := D) (cI := cI) (cL := cL) (cZ := cZ) hm m1 m2 m3 m4 m5 m7 m9 m10 m11 m12 m13 m15 m16 m17 (0 : Int32) (1 : Int32) (0 : Int32) )) (gPp.pre (av := [.ref hm, .int (3 : Int32)]) (wc := [(hm, .inr (6, [.int (0 : Int32), .ref m1, .ref m2, .ref m3, .ref m4, .ref m5, .int (1 : Int32), .ref m7, .int (0 : Int32), .ref m9, .ref m10, .ref m11, .ref m12, .ref m13, .int (0 : Int32), .ref m15, .ref m16, .ref m17]))]) hK hN [0] rfl (by decide)) gX6_digest_X6_manyNow rfl rfl kd_X6_manyNow ⟨by decide, by decide⟩ (st := [.long (5301010540 : Int64)]) rfl (Nat.le_of_ble_eq_true rfl) dX6_digest_24 ⟨by decide, by decide⟩) (fun u hu => ?_)
  refine g_i2l (v := (0 : Int64)) B dX6_digest_27 (by decide) ?_
  refine g_ladd (v := (5301010540 : Int64)) B dX6_digest_28 (by decide) ?_
  refine g_lstore_n (lv' := [(0, .ref hm), (1, .long (5301010540 : Int64)), (3, .int (3 : Int32))]) B dX6_digest_29 rfl (by decide) [1, 0, 2] rfl ?_
  refine g_iinc (lv' := [(0, .ref hm), (1, .long (5301010540 : Int64)), (3, .int (4 : Int32))]) B dX6_digest_30 2 rfl (by decide) (by decide) [1, 2, 0] rfl ?_
  refine g_goto (tgt := 11) B dX6_digest_33 (by decide) ?_
  refine g_iload_n B dX6_digest_11 2 rfl ?_
  refine g_bipush (v := (8 : Int32)) B dX6_digest_12 (by decide) ?_
  refine g_icmp_ge (tgt := 36) B dX6_digest_14 (by decide) (fun c9 => absurd c9 (by decide)) (fun _ => ?_)
  refine g_lload_n B dX6_digest_17 1 rfl ?_
  refine g_ldc2 (v := (31 : Int64)) B dX6_digest_18 (List.mem_of_getElem? (i := 3) rfl) ?_
  refine g_lmul (v := (164331326740 : Int64)) B dX6_digest_21 (by decide) ?_
  refine g_aload_n B dX6_digest_22 0 rfl ?_
  refine g_iload_n B dX6_digest_23 2 rfl ?_
  refine g_callP (g_runV (q0 := 0) (ci := 6) B hK rfl rfl (PM.met (r_manyNow_4 l (D := D) (cI := cI) (cL := cL) (cZ := cZ) hm m1 m2 m3 m4 m5 m7 m9 m10 m11 m12 m13 m15 m16 m17 (0 : Int32) (1 : Int32) (0 : Int32) )) (gPp.pre (av := [.ref hm, .int (4 : Int32)]) (wc := [(hm, .inr (6, [.int (0 : Int32), .ref m1, .ref m2, .ref m3, .ref m4, .ref m5, .int (1 : Int32), .ref m7, .int (0 : Int32), .ref m9, .ref m10, .ref m11, .ref m12, .ref m13, .int (0 : Int32), .ref m15, .ref m16, .ref m17]))]) hK hN [0] rfl (by decide)) gX6_digest_X6_manyNow rfl rfl kd_X6_manyNow ⟨by decide, by decide⟩ (st := [.long (164331326740 : Int64)]) rfl (Nat.le_of_ble_eq_true rfl) dX6_digest_24 ⟨by decide, by decide⟩) (fun u hu => ?_)
  refine g_i2l (v := (0 : Int64)) B dX6_digest_27 (by decide) ?_
  refine g_ladd (v := (164331326740 : Int64)) B dX6_digest_28 (by decide) ?_
  refine g_lstore_n (lv' := [(0, .ref hm), (1, .long (164331326740 : Int64)), (3, .int (4 : Int32))]) B dX6_digest_29 rfl (by decide) [1, 0, 2] rfl ?_
  refine g_iinc (lv' := [(0, .ref hm), (1, .long (164331326740 : Int64)), (3, .int (5 : Int32))]) B dX6_digest_30 2 rfl (by decide) (by decide) [1, 2, 0] rfl ?_
  refine g_goto (tgt := 11) B dX6_digest_33 (by decide) ?_
  refine g_iload_n B dX6_digest_11 2 rfl ?_
  refine g_bipush (v := (8 : Int32)) B dX6_digest_12 (by decide) ?_
  refine g_icmp_ge (tgt := 36) B dX6_digest_14 (by decide) (fun c11 => absurd c11 (by decide)) (fun _ => ?_)
  refine g_lload_n B dX6_digest_17 1 rfl ?_
  refine g_ldc2 (v := (31 : Int64)) B dX6_digest_18 (List.mem_of_getElem? (i := 3) rfl) ?_
  refine g_lmul (v := (5094271128940 : Int64)) B dX6_digest_21 (by decide) ?_
  refine g_aload_n B dX6_digest_22 0 rfl ?_
  refine g_iload_n B dX6_digest_23 2 rfl ?_
  refine g_callP (g_runV (q0 := 0) (ci := 6) B hK rfl rfl (PM.met (r_manyNow_5 l (D := D) (cI := cI) (cL := cL) (cZ := cZ) hm m1 m2 m3 m4 m5 m7 m9 m10 m11 m12 m13 m15 m16 m17 (0 : Int32) (1 : Int32) )) (gPp.pre (av := [.ref hm, .int (5 : Int32)]) (wc := [(hm, .inr (6, [.int (0 : Int32), .ref m1, .ref m2, .ref m3, .ref m4, .ref m5, .int (1 : Int32), .ref m7, .int (0 : Int32), .ref m9, .ref m10, .ref m11, .ref m12, .ref m13, .int (0 : Int32), .ref m15, .ref m16, .ref m17]))]) hK hN [0] rfl (by decide)) gX6_digest_X6_manyNow rfl rfl kd_X6_manyNow ⟨by decide, by decide⟩ (st := [.long (5094271128940 : Int64)]) rfl (Nat.le_of_ble_eq_true rfl) dX6_digest_24 ⟨by decide, by decide⟩) (fun u hu => ?_)
  refine g_i2l (v := (0 : Int64)) B dX6_digest_27 (by decide) ?_
  refine g_ladd (v := (5094271128940 : Int64)) B dX6_digest_28 (by decide) ?_
  refine g_lstore_n (lv' := [(0, .ref hm), (1, .long (5094271128940 : Int64)), (3, .int (5 : Int32))]) B dX6_digest_29 rfl (by decide) [1, 0, 2] rfl ?_
  refine g_iinc (lv' := [(0, .ref hm), (1, .long (5094271128940 : Int64)), (3, .int (6 : Int32))]) B dX6_digest_30 2 rfl (by decide) (by decide) [1, 2, 0] rfl ?_
  refine g_goto (tgt := 11) B dX6_digest_33 (by decide) ?_
  refine g_iload_n B dX6_digest_11 2 rfl ?_
  refine g_bipush (v := (8 : Int32)) B dX6_digest_12 (by decide) ?_
  refine g_icmp_ge (tgt := 36) B dX6_digest_14 (by decide) (fun c13 => absurd c13 (by decide)) (fun _ => ?_)
  refine g_lload_n B dX6_digest_17 1 rfl ?_
  refine g_ldc2 (v := (31 : Int64)) B dX6_digest_18 (List.mem_of_getElem? (i := 3) rfl) ?_
  refine g_lmul (v := (157922404997140 : Int64)) B dX6_digest_21 (by decide) ?_
  refine g_aload_n B dX6_digest_22 0 rfl ?_
  refine g_iload_n B dX6_digest_23 2 rfl ?_
  refine g_callP (g_runV (q0 := 0) (ci := 6) B hK rfl rfl (PM.met (r_manyNow_6 l (D := D) (cI := cI) (cL := cL) (cZ := cZ) hm m1 m2 m3 m4 m5 m7 m9 m10 m11 m12 m13 m15 m16 m17 (0 : Int32) (1 : Int32) (0 : Int32) )) (gPp.pre (av := [.ref hm, .int (6 : Int32)]) (wc := [(hm, .inr (6, [.int (0 : Int32), .ref m1, .ref m2, .ref m3, .ref m4, .ref m5, .int (1 : Int32), .ref m7, .int (0 : Int32), .ref m9, .ref m10, .ref m11, .ref m12, .ref m13, .int (0 : Int32), .ref m15, .ref m16, .ref m17]))]) hK hN [0] rfl (by decide)) gX6_digest_X6_manyNow rfl rfl kd_X6_manyNow ⟨by decide, by decide⟩ (st := [.long (157922404997140 : Int64)]) rfl (Nat.le_of_ble_eq_true rfl) dX6_digest_24 ⟨by decide, by decide⟩) (fun u hu => ?_)
  refine g_i2l (v := (1 : Int64)) B dX6_digest_27 (by decide) ?_
  refine g_ladd (v := (157922404997141 : Int64)) B dX6_digest_28 (by decide) ?_
  refine g_lstore_n (lv' := [(0, .ref hm), (1, .long (157922404997141 : Int64)), (3, .int (6 : Int32))]) B dX6_digest_29 rfl (by decide) [1, 0, 2] rfl ?_
  refine g_iinc (lv' := [(0, .ref hm), (1, .long (157922404997141 : Int64)), (3, .int (7 : Int32))]) B dX6_digest_30 2 rfl (by decide) (by decide) [1, 2, 0] rfl ?_
  refine g_goto (tgt := 11) B dX6_digest_33 (by decide) ?_
  refine g_iload_n B dX6_digest_11 2 rfl ?_
  refine g_bipush (v := (8 : Int32)) B dX6_digest_12 (by decide) ?_
  refine g_icmp_ge (tgt := 36) B dX6_digest_14 (by decide) (fun c15 => absurd c15 (by decide)) (fun _ => ?_)
  refine g_lload_n B dX6_digest_17 1 rfl ?_
  refine g_ldc2 (v := (31 : Int64)) B dX6_digest_18 (List.mem_of_getElem? (i := 3) rfl) ?_
  refine g_lmul (v := (4895594554911371 : Int64)) B dX6_digest_21 (by decide) ?_
  refine g_aload_n B dX6_digest_22 0 rfl ?_
  refine g_iload_n B dX6_digest_23 2 rfl ?_
  refine g_callP (g_runV (q0 := 0) (ci := 6) B hK rfl rfl (PM.met (r_manyNow_7 l (D := D) (cI := cI) (cL := cL) (cZ := cZ) hm m1 m2 m3 m4 m5 m7 m9 m10 m11 m12 m13 m15 m16 m17 (0 : Int32) (1 : Int32) (0 : Int32) )) (gPp.pre (av := [.ref hm, .int (7 : Int32)]) (wc := [(hm, .inr (6, [.int (0 : Int32), .ref m1, .ref m2, .ref m3, .ref m4, .ref m5, .int (1 : Int32), .ref m7, .int (0 : Int32), .ref m9, .ref m10, .ref m11, .ref m12, .ref m13, .int (0 : Int32), .ref m15, .ref m16, .ref m17])), (m4, .inl (cI, 24, .inl (fun _ => (-1 : Int32))))]) hK hN [0, 4] rfl (by decide)) gX6_digest_X6_manyNow rfl rfl kd_X6_manyNow ⟨by decide, by decide⟩ (st := [.long (4895594554911371 : Int64)]) rfl (Nat.le_of_ble_eq_true rfl) dX6_digest_24 ⟨by decide, by decide⟩) (fun u hu => ?_)
  refine g_i2l (v := (1 : Int64)) B dX6_digest_27 (by decide) ?_
  refine g_ladd (v := (4895594554911372 : Int64)) B dX6_digest_28 (by decide) ?_
  refine g_lstore_n (lv' := [(0, .ref hm), (1, .long (4895594554911372 : Int64)), (3, .int (7 : Int32))]) B dX6_digest_29 rfl (by decide) [1, 0, 2] rfl ?_
  refine g_iinc (lv' := [(0, .ref hm), (1, .long (4895594554911372 : Int64)), (3, .int (8 : Int32))]) B dX6_digest_30 2 rfl (by decide) (by decide) [1, 2, 0] rfl ?_
  refine g_goto (tgt := 11) B dX6_digest_33 (by decide) ?_
  refine g_iload_n B dX6_digest_11 2 rfl ?_
  refine g_bipush (v := (8 : Int32)) B dX6_digest_12 (by decide) ?_
  refine g_icmp_ge (tgt := 36) B dX6_digest_14 (by decide) (fun _ => ?_) (fun c17 => absurd (by decide) c17)
  refine g_iconst (v := (0 : Int32)) B dX6_digest_36 (by decide) ?_
  refine g_istore_n (lv' := [(0, .ref hm), (1, .long (4895594554911372 : Int64)), (3, .int (0 : Int32))]) B dX6_digest_37 rfl (by decide) [1, 2, 0] rfl ?_
  refine g_iload_n B dX6_digest_38 2 rfl ?_
  refine g_aload_n B dX6_digest_39 0 rfl ?_
  refine g_get (C := RX6) (T := TX6) (N := 18) (ci := 6) B hK hin_X6_digest_RX6 0 rfl rfl 8 (by decide) (List.mem_of_getElem? (i := 4) rfl) rfl (v := .int (0 : Int32)) rfl dX6_digest_40 ?_
  refine g_icmp_ge (tgt := 83) B dX6_digest_43 (by decide) (fun _ => ?_) (fun c18 => absurd (by decide) c18)
  refine g_iconst (v := (0 : Int32)) B dX6_digest_83 (by decide) ?_
  refine g_istore_n (lv' := [(0, .ref hm), (1, .long (4895594554911372 : Int64)), (3, .int (0 : Int32))]) B dX6_digest_84 rfl (by decide) [1, 2, 0] rfl ?_
  refine g_iload_n B dX6_digest_85 2 rfl ?_
  refine g_bipush (v := (24 : Int32)) B dX6_digest_86 (by decide) ?_
  refine g_icmp_ge (tgt := 127) B dX6_digest_88 (by decide) (fun c19 => absurd c19 (by decide)) (fun _ => ?_)
  refine g_iconst (v := (0 : Int32)) B dX6_digest_91 (by decide) ?_
  refine g_istore (lv' := [(0, .ref hm), (1, .long (4895594554911372 : Int64)), (3, .int (0 : Int32)), (4, .int (0 : Int32))]) B dX6_digest_92 (by decide) [1, 2, 3, 0] rfl ?_
  refine g_iload B dX6_digest_94 3 rfl ?_
  refine g_iconst (v := (3 : Int32)) B dX6_digest_96 (by decide) ?_
  refine g_icmp_ge (tgt := 121) B dX6_digest_97 (by decide) (fun c20 => absurd c20 (by decide)) (fun _ => ?_)
  refine g_lload_n B dX6_digest_100 1 rfl ?_
  refine g_ldc2 (v := (31 : Int64)) B dX6_digest_101 (List.mem_of_getElem? (i := 3) rfl) ?_
  refine g_lmul (v := (151763431202252532 : Int64)) B dX6_digest_104 (by decide) ?_
  refine g_aload_n B dX6_digest_105 0 rfl ?_
  refine g_iload_n B dX6_digest_106 2 rfl ?_
  refine g_iload B dX6_digest_107 3 rfl ?_
  refine g_callP (g_runV (q0 := 0) (ci := 6) B hK rfl rfl (PM.met (r_ofEdgeNow_n l (D := D) (cI := cI) (cL := cL) (cZ := cZ) hm m1 m2 m3 m4 m5 m7 m9 m10 m11 m12 m13 m15 m16 m17 (0 : Int32) (1 : Int32) (0 : Int32) (0 : Int32) (0 : Int32) (by first | assumption | decide))) (gPp.pre (av := [.ref hm, .int (0 : Int32), .int (0 : Int32)]) (wc := [(hm, .inr (6, [.int (0 : Int32), .ref m1, .ref m2, .ref m3, .ref m4, .ref m5, .int (1 : Int32), .ref m7, .int (0 : Int32), .ref m9, .ref m10, .ref m11, .ref m12, .ref m13, .int (0 : Int32), .ref m15, .ref m16, .ref m17]))]) hK hN [0] rfl (by decide)) gX6_digest_X6_ofEdgeNow rfl rfl kd_X6_ofEdgeNow ⟨by decide, by decide⟩ (st := [.long (151763431202252532 : Int64)]) rfl (Nat.le_of_ble_eq_true rfl) dX6_digest_109 ⟨by decide, by decide⟩) (fun u hu => ?_)
  refine g_i2l (v := (0 : Int64)) B dX6_digest_112 (by decide) ?_
  refine g_ladd (v := (151763431202252532 : Int64)) B dX6_digest_113 (by decide) ?_
  refine g_lstore_n (lv' := [(0, .ref hm), (1, .long (151763431202252532 : Int64)), (3, .int (0 : Int32)), (4, .int (0 : Int32))]) B dX6_digest_114 rfl (by decide) [1, 0, 2, 3] rfl ?_
  refine g_iinc (lv' := [(0, .ref hm), (1, .long (151763431202252532 : Int64)), (3, .int (0 : Int32)), (4, .int (1 : Int32))]) B dX6_digest_115 3 rfl (by decide) (by decide) [1, 2, 3, 0] rfl ?_
  refine g_goto (tgt := 94) B dX6_digest_118 (by decide) ?_
  refine g_iload B dX6_digest_94 3 rfl ?_
  refine g_iconst (v := (3 : Int32)) B dX6_digest_96 (by decide) ?_
  refine g_icmp_ge (tgt := 121) B dX6_digest_97 (by decide) (fun c22 => absurd c22 (by decide)) (fun _ => ?_)
  refine g_lload_n B dX6_digest_100 1 rfl ?_
  refine g_ldc2 (v := (31 : Int64)) B dX6_digest_101 (List.mem_of_getElem? (i := 3) rfl) ?_
  refine g_lmul (v := (4704666367269828492 : Int64)) B dX6_digest_104 (by decide) ?_
  refine g_aload_n B dX6_digest_105 0 rfl ?_
  refine g_iload_n B dX6_digest_106 2 rfl ?_
  refine g_iload B dX6_digest_107 3 rfl ?_
  refine g_callP (g_runV (q0 := 0) (ci := 6) B hK rfl rfl (PM.met (r_ofEdgeNow_n l (D := D) (cI := cI) (cL := cL) (cZ := cZ) hm m1 m2 m3 m4 m5 m7 m9 m10 m11 m12 m13 m15 m16 m17 (0 : Int32) (1 : Int32) (0 : Int32) (0 : Int32) (1 : Int32) (by first | assumption | decide))) (gPp.pre (av := [.ref hm, .int (0 : Int32), .int (1 : Int32)]) (wc := [(hm, .inr (6, [.int (0 : Int32), .ref m1, .ref m2, .ref m3, .ref m4, .ref m5, .int (1 : Int32), .ref m7, .int (0 : Int32), .ref m9, .ref m10, .ref m11, .ref m12, .ref m13, .int (0 : Int32), .ref m15, .ref m16, .ref m17]))]) hK hN [0] rfl (by decide)) gX6_digest_X6_ofEdgeNow rfl rfl kd_X6_ofEdgeNow ⟨by decide, by decide⟩ (st := [.long (4704666367269828492 : Int64)]) rfl (Nat.le_of_ble_eq_true rfl) dX6_digest_109 ⟨by decide, by decide⟩) (fun u hu => ?_)
  refine g_i2l (v := (0 : Int64)) B dX6_digest_112 (by decide) ?_
  refine g_ladd (v := (4704666367269828492 : Int64)) B dX6_digest_113 (by decide) ?_
  refine g_lstore_n (lv' := [(0, .ref hm), (1, .long (4704666367269828492 : Int64)), (3, .int (0 : Int32)), (4, .int (1 : Int32))]) B dX6_digest_114 rfl (by decide) [1, 0, 2, 3] rfl ?_
  refine g_iinc (lv' := [(0, .ref hm), (1, .long (4704666367269828492 : Int64)), (3, .int (0 : Int32)), (4, .int (2 : Int32))]) B dX6_digest_115 3 rfl (by decide) (by decide) [1, 2, 3, 0] rfl ?_
  refine g_goto (tgt := 94) B dX6_digest_118 (by decide) ?_
  refine g_iload B dX6_digest_94 3 rfl ?_
  refine g_iconst (v := (3 : Int32)) B dX6_digest_96 (by decide) ?_
  refine g_icmp_ge (tgt := 121) B dX6_digest_97 (by decide) (fun c24 => absurd c24 (by decide)) (fun _ => ?_)
  refine g_lload_n B dX6_digest_100 1 rfl ?_
  refine g_ldc2 (v := (31 : Int64)) B dX6_digest_101 (List.mem_of_getElem? (i := 3) rfl) ?_
  refine g_lmul (v := (-1729295204311729676 : Int64)) B dX6_digest_104 (by decide) ?_
  refine g_aload_n B dX6_digest_105 0 rfl ?_
  refine g_iload_n B dX6_digest_106 2 rfl ?_
  refine g_iload B dX6_digest_107 3 rfl ?_
  refine g_callP (g_runV (q0 := 0) (ci := 6) B hK rfl rfl (PM.met (r_ofEdgeNow_2 l (D := D) (cI := cI) (cL := cL) (cZ := cZ) hm m1 m2 m3 m4 m5 m7 m9 m10 m11 m12 m13 m15 m16 m17 (0 : Int32) (1 : Int32) (0 : Int32) (0 : Int32) )) (gPp.pre (av := [.ref hm, .int (0 : Int32), .int (2 : Int32)]) (wc := [(hm, .inr (6, [.int (0 : Int32), .ref m1, .ref m2, .ref m3, .ref m4, .ref m5, .int (1 : Int32), .ref m7, .int (0 : Int32), .ref m9, .ref m10, .ref m11, .ref m12, .ref m13, .int (0 : Int32), .ref m15, .ref m16, .ref m17]))]) hK hN [0] rfl (by decide)) gX6_digest_X6_ofEdgeNow rfl rfl kd_X6_ofEdgeNow ⟨by decide, by decide⟩ (st := [.long (-1729295204311729676 : Int64)]) rfl (Nat.le_of_ble_eq_true rfl) dX6_digest_109 ⟨by decide, by decide⟩) (fun u hu => ?_)
  refine g_i2l (v := (-1 : Int64)) B dX6_digest_112 (by decide) ?_
  refine g_ladd (v := (-1729295204311729677 : Int64)) B dX6_digest_113 (by decide) ?_
  refine g_lstore_n (lv' := [(0, .ref hm), (1, .long (-1729295204311729677 : Int64)), (3, .int (0 : Int32)), (4, .int (2 : Int32))]) B dX6_digest_114 rfl (by decide) [1, 0, 2, 3] rfl ?_
  refine g_iinc (lv' := [(0, .ref hm), (1, .long (-1729295204311729677 : Int64)), (3, .int (0 : Int32)), (4, .int (3 : Int32))]) B dX6_digest_115 3 rfl (by decide) (by decide) [1, 2, 3, 0] rfl ?_
  refine g_goto (tgt := 94) B dX6_digest_118 (by decide) ?_
  refine g_iload B dX6_digest_94 3 rfl ?_
  refine g_iconst (v := (3 : Int32)) B dX6_digest_96 (by decide) ?_
  refine g_icmp_ge (tgt := 121) B dX6_digest_97 (by decide) (fun _ => ?_) (fun c26 => absurd (by decide) c26)
  refine g_iinc (lv' := [(0, .ref hm), (1, .long (-1729295204311729677 : Int64)), (3, .int (1 : Int32)), (4, .int (3 : Int32))]) B dX6_digest_121 2 rfl (by decide) (by decide) [1, 2, 0, 3] rfl ?_
  refine g_goto (tgt := 85) B dX6_digest_124 (by decide) ?_
  refine g_iload_n B dX6_digest_85 2 rfl ?_
  refine g_bipush (v := (24 : Int32)) B dX6_digest_86 (by decide) ?_
  refine g_icmp_ge (tgt := 127) B dX6_digest_88 (by decide) (fun c27 => absurd c27 (by decide)) (fun _ => ?_)
  refine g_iconst (v := (0 : Int32)) B dX6_digest_91 (by decide) ?_
  refine g_istore (lv' := [(0, .ref hm), (1, .long (-1729295204311729677 : Int64)), (3, .int (1 : Int32)), (4, .int (0 : Int32))]) B dX6_digest_92 (by decide) [1, 2, 3, 0] rfl ?_
  refine g_iload B dX6_digest_94 3 rfl ?_
  refine g_iconst (v := (3 : Int32)) B dX6_digest_96 (by decide) ?_
  refine g_icmp_ge (tgt := 121) B dX6_digest_97 (by decide) (fun c28 => absurd c28 (by decide)) (fun _ => ?_)
  refine g_lload_n B dX6_digest_100 1 rfl ?_
  refine g_ldc2 (v := (31 : Int64)) B dX6_digest_101 (List.mem_of_getElem? (i := 3) rfl) ?_
  refine g_lmul (v := (1732080887465034861 : Int64)) B dX6_digest_104 (by decide) ?_
  refine g_aload_n B dX6_digest_105 0 rfl ?_
  refine g_iload_n B dX6_digest_106 2 rfl ?_
  refine g_iload B dX6_digest_107 3 rfl ?_
  refine g_callP (g_runV (q0 := 0) (ci := 6) B hK rfl rfl (PM.met (r_ofEdgeNow_n l (D := D) (cI := cI) (cL := cL) (cZ := cZ) hm m1 m2 m3 m4 m5 m7 m9 m10 m11 m12 m13 m15 m16 m17 (0 : Int32) (1 : Int32) (0 : Int32) (1 : Int32) (0 : Int32) (by first | assumption | decide))) (gPp.pre (av := [.ref hm, .int (1 : Int32), .int (0 : Int32)]) (wc := [(hm, .inr (6, [.int (0 : Int32), .ref m1, .ref m2, .ref m3, .ref m4, .ref m5, .int (1 : Int32), .ref m7, .int (0 : Int32), .ref m9, .ref m10, .ref m11, .ref m12, .ref m13, .int (0 : Int32), .ref m15, .ref m16, .ref m17]))]) hK hN [0] rfl (by decide)) gX6_digest_X6_ofEdgeNow rfl rfl kd_X6_ofEdgeNow ⟨by decide, by decide⟩ (st := [.long (1732080887465034861 : Int64)]) rfl (Nat.le_of_ble_eq_true rfl) dX6_digest_109 ⟨by decide, by decide⟩) (fun u hu => ?_)
  refine g_i2l (v := (0 : Int64)) B dX6_digest_112 (by decide) ?_
  refine g_ladd (v := (1732080887465034861 : Int64)) B dX6_digest_113 (by decide) ?_
  refine g_lstore_n (lv' := [(0, .ref hm), (1, .long (1732080887465034861 : Int64)), (3, .int (1 : Int32)), (4, .int (0 : Int32))]) B dX6_digest_114 rfl (by decide) [1, 0, 2, 3] rfl ?_
  refine g_iinc (lv' := [(0, .ref hm), (1, .long (1732080887465034861 : Int64)), (3, .int (1 : Int32)), (4, .int (1 : Int32))]) B dX6_digest_115 3 rfl (by decide) (by decide) [1, 2, 3, 0] rfl ?_
  refine g_goto (tgt := 94) B dX6_digest_118 (by decide) ?_
  refine g_iload B dX6_digest_94 3 rfl ?_
  refine g_iconst (v := (3 : Int32)) B dX6_digest_96 (by decide) ?_
  refine g_icmp_ge (tgt := 121) B dX6_digest_97 (by decide) (fun c30 => absurd c30 (by decide)) (fun _ => ?_)
  refine g_lload_n B dX6_digest_100 1 rfl ?_
  refine g_ldc2 (v := (31 : Int64)) B dX6_digest_101 (List.mem_of_getElem? (i := 3) rfl) ?_
  refine g_lmul (v := (-1645724709712574157 : Int64)) B dX6_digest_104 (by decide) ?_
  refine g_aload_n B dX6_digest_105 0 rfl ?_
  refine g_iload_n B dX6_digest_106 2 rfl ?_
  refine g_iload B dX6_digest_107 3 rfl ?_
  refine g_callP (g_runV (q0 := 0) (ci := 6) B hK rfl rfl (PM.met (r_ofEdgeNow_n l (D := D) (cI := cI) (cL := cL) (cZ := cZ) hm m1 m2 m3 m4 m5 m7 m9 m10 m11 m12 m13 m15 m16 m17 (0 : Int32) (1 : Int32) (0 : Int32) (1 : Int32) (1 : Int32) (by first | assumption | decide))) (gPp.pre (av := [.ref hm, .int (1 : Int32), .int (1 : Int32)]) (wc := [(hm, .inr (6, [.int (0 : Int32), .ref m1, .ref m2, .ref m3, .ref m4, .ref m5, .int (1 : Int32), .ref m7, .int (0 : Int32), .ref m9, .ref m10, .ref m11, .ref m12, .ref m13, .int (0 : Int32), .ref m15, .ref m16, .ref m17]))]) hK hN [0] rfl (by decide)) gX6_digest_X6_ofEdgeNow rfl rfl kd_X6_ofEdgeNow ⟨by decide, by decide⟩ (st := [.long (-1645724709712574157 : Int64)]) rfl (Nat.le_of_ble_eq_true rfl) dX6_digest_109 ⟨by decide, by decide⟩) (fun u hu => ?_)
  refine g_i2l (v := (0 : Int64)) B dX6_digest_112 (by decide) ?_
  refine g_ladd (v := (-1645724709712574157 : Int64)) B dX6_digest_113 (by decide) ?_
  refine g_lstore_n (lv' := [(0, .ref hm), (1, .long (-1645724709712574157 : Int64)), (3, .int (1 : Int32)), (4, .int (1 : Int32))]) B dX6_digest_114 rfl (by decide) [1, 0, 2, 3] rfl ?_
  refine g_iinc (lv' := [(0, .ref hm), (1, .long (-1645724709712574157 : Int64)), (3, .int (1 : Int32)), (4, .int (2 : Int32))]) B dX6_digest_115 3 rfl (by decide) (by decide) [1, 2, 3, 0] rfl ?_
  refine g_goto (tgt := 94) B dX6_digest_118 (by decide) ?_
  refine g_iload B dX6_digest_94 3 rfl ?_
  refine g_iconst (v := (3 : Int32)) B dX6_digest_96 (by decide) ?_
  refine g_icmp_ge (tgt := 121) B dX6_digest_97 (by decide) (fun c32 => absurd c32 (by decide)) (fun _ => ?_)
  refine g_lload_n B dX6_digest_100 1 rfl ?_
  refine g_ldc2 (v := (31 : Int64)) B dX6_digest_101 (List.mem_of_getElem? (i := 3) rfl) ?_
  refine g_lmul (v := (4322766220038855981 : Int64)) B dX6_digest_104 (by decide) ?_
  refine g_aload_n B dX6_digest_105 0 rfl ?_
  refine g_iload_n B dX6_digest_106 2 rfl ?_
  refine g_iload B dX6_digest_107 3 rfl ?_
  refine g_callP (g_runV (q0 := 0) (ci := 6) B hK rfl rfl (PM.met (r_ofEdgeNow_2 l (D := D) (cI := cI) (cL := cL) (cZ := cZ) hm m1 m2 m3 m4 m5 m7 m9 m10 m11 m12 m13 m15 m16 m17 (0 : Int32) (1 : Int32) (0 : Int32) (1 : Int32) )) (gPp.pre (av := [.ref hm, .int (1 : Int32), .int (2 : Int32)]) (wc := [(hm, .inr (6, [.int (0 : Int32), .ref m1, .ref m2, .ref m3, .ref m4, .ref m5, .int (1 : Int32), .ref m7, .int (0 : Int32), .ref m9, .ref m10, .ref m11, .ref m12, .ref m13, .int (0 : Int32), .ref m15, .ref m16, .ref m17]))]) hK hN [0] rfl (by decide)) gX6_digest_X6_ofEdgeNow rfl rfl kd_X6_ofEdgeNow ⟨by decide, by decide⟩ (st := [.long (4322766220038855981 : Int64)]) rfl (Nat.le_of_ble_eq_true rfl) dX6_digest_109 ⟨by decide, by decide⟩) (fun u hu => ?_)
  refine g_i2l (v := (-1 : Int64)) B dX6_digest_112 (by decide) ?_
  refine g_ladd (v := (4322766220038855980 : Int64)) B dX6_digest_113 (by decide) ?_
  refine g_lstore_n (lv' := [(0, .ref hm), (1, .long (4322766220038855980 : Int64)), (3, .int (1 : Int32)), (4, .int (2 : Int32))]) B dX6_digest_114 rfl (by decide) [1, 0, 2, 3] rfl ?_
  refine g_iinc (lv' := [(0, .ref hm), (1, .long (4322766220038855980 : Int64)), (3, .int (1 : Int32)), (4, .int (3 : Int32))]) B dX6_digest_115 3 rfl (by decide) (by decide) [1, 2, 3, 0] rfl ?_
  refine g_goto (tgt := 94) B dX6_digest_118 (by decide) ?_
  refine g_iload B dX6_digest_94 3 rfl ?_
  refine g_iconst (v := (3 : Int32)) B dX6_digest_96 (by decide) ?_
  refine g_icmp_ge (tgt := 121) B dX6_digest_97 (by decide) (fun _ => ?_) (fun c34 => absurd (by decide) c34)
  refine g_iinc (lv' := [(0, .ref hm), (1, .long (4322766220038855980 : Int64)), (3, .int (2 : Int32)), (4, .int (3 : Int32))]) B dX6_digest_121 2 rfl (by decide) (by decide) [1, 2, 0, 3] rfl ?_
  refine g_goto (tgt := 85) B dX6_digest_124 (by decide) ?_
  refine g_iload_n B dX6_digest_85 2 rfl ?_
  refine g_bipush (v := (24 : Int32)) B dX6_digest_86 (by decide) ?_
  refine g_icmp_ge (tgt := 127) B dX6_digest_88 (by decide) (fun c35 => absurd c35 (by decide)) (fun _ => ?_)
  refine g_iconst (v := (0 : Int32)) B dX6_digest_91 (by decide) ?_
  refine g_istore (lv' := [(0, .ref hm), (1, .long (4322766220038855980 : Int64)), (3, .int (2 : Int32)), (4, .int (0 : Int32))]) B dX6_digest_92 (by decide) [1, 2, 3, 0] rfl ?_
  refine g_iload B dX6_digest_94 3 rfl ?_
  refine g_iconst (v := (3 : Int32)) B dX6_digest_96 (by decide) ?_
  refine g_icmp_ge (tgt := 121) B dX6_digest_97 (by decide) (fun c36 => absurd c36 (by decide)) (fun _ => ?_)
  refine g_lload_n B dX6_digest_100 1 rfl ?_
  refine g_ldc2 (v := (31 : Int64)) B dX6_digest_101 (List.mem_of_getElem? (i := 3) rfl) ?_
  refine g_lmul (v := (4878544305237674068 : Int64)) B dX6_digest_104 (by decide) ?_
  refine g_aload_n B dX6_digest_105 0 rfl ?_
  refine g_iload_n B dX6_digest_106 2 rfl ?_
  refine g_iload B dX6_digest_107 3 rfl ?_
  refine g_callP (g_runV (q0 := 0) (ci := 6) B hK rfl rfl (PM.met (r_ofEdgeNow_n l (D := D) (cI := cI) (cL := cL) (cZ := cZ) hm m1 m2 m3 m4 m5 m7 m9 m10 m11 m12 m13 m15 m16 m17 (0 : Int32) (1 : Int32) (0 : Int32) (2 : Int32) (0 : Int32) (by first | assumption | decide))) (gPp.pre (av := [.ref hm, .int (2 : Int32), .int (0 : Int32)]) (wc := [(hm, .inr (6, [.int (0 : Int32), .ref m1, .ref m2, .ref m3, .ref m4, .ref m5, .int (1 : Int32), .ref m7, .int (0 : Int32), .ref m9, .ref m10, .ref m11, .ref m12, .ref m13, .int (0 : Int32), .ref m15, .ref m16, .ref m17]))]) hK hN [0] rfl (by decide)) gX6_digest_X6_ofEdgeNow rfl rfl kd_X6_ofEdgeNow ⟨by decide, by decide⟩ (st := [.long (4878544305237674068 : Int64)]) rfl (Nat.le_of_ble_eq_true rfl) dX6_digest_109 ⟨by decide, by decide⟩) (fun u hu => ?_)
  refine g_i2l (v := (0 : Int64)) B dX6_digest_112 (by decide) ?_
  refine g_ladd (v := (4878544305237674068 : Int64)) B dX6_digest_113 (by decide) ?_
  refine g_lstore_n (lv' := [(0, .ref hm), (1, .long (4878544305237674068 : Int64)), (3, .int (2 : Int32)), (4, .int (0 : Int32))]) B dX6_digest_114 rfl (by decide) [1, 0, 2, 3] rfl ?_
  refine g_iinc (lv' := [(0, .ref hm), (1, .long (4878544305237674068 : Int64)), (3, .int (2 : Int32)), (4, .int (1 : Int32))]) B dX6_digest_115 3 rfl (by decide) (by decide) [1, 2, 3, 0] rfl ?_
  refine g_goto (tgt := 94) B dX6_digest_118 (by decide) ?_
  refine g_iload B dX6_digest_94 3 rfl ?_
  refine g_iconst (v := (3 : Int32)) B dX6_digest_96 (by decide) ?_
  refine g_icmp_ge (tgt := 121) B dX6_digest_97 (by decide) (fun c38 => absurd c38 (by decide)) (fun _ => ?_)
  refine g_lload_n B dX6_digest_100 1 rfl ?_
  refine g_ldc2 (v := (31 : Int64)) B dX6_digest_101 (List.mem_of_getElem? (i := 3) rfl) ?_
  refine g_lmul (v := (3660920872691483180 : Int64)) B dX6_digest_104 (by decide) ?_
  refine g_aload_n B dX6_digest_105 0 rfl ?_
  refine g_iload_n B dX6_digest_106 2 rfl ?_
  refine g_iload B dX6_digest_107 3 rfl ?_
  refine g_callP (g_runV (q0 := 0) (ci := 6) B hK rfl rfl (PM.met (r_ofEdgeNow_n l (D := D) (cI := cI) (cL := cL) (cZ := cZ) hm m1 m2 m3 m4 m5 m7 m9 m10 m11 m12 m13 m15 m16 m17 (0 : Int32) (1 : Int32) (0 : Int32) (2 : Int32) (1 : Int32) (by first | assumption | decide))) (gPp.pre (av := [.ref hm, .int (2 : Int32), .int (1 : Int32)]) (wc := [(hm, .inr (6, [.int (0 : Int32), .ref m1, .ref m2, .ref m3, .ref m4, .ref m5, .int (1 : Int32), .ref m7, .int (0 : Int32), .ref m9, .ref m10, .ref m11, .ref m12, .ref m13, .int (0 : Int32), .ref m15, .ref m16, .ref m17]))]) hK hN [0] rfl (by decide)) gX6_digest_X6_ofEdgeNow rfl rfl kd_X6_ofEdgeNow ⟨by decide, by decide⟩ (st := [.long (3660920872691483180 : Int64)]) rfl (Nat.le_of_ble_eq_true rfl) dX6_digest_109 ⟨by decide, by decide⟩) (fun u hu => ?_)
  refine g_i2l (v := (0 : Int64)) B dX6_digest_112 (by decide) ?_
  refine g_ladd (v := (3660920872691483180 : Int64)) B dX6_digest_113 (by decide) ?_
  refine g_lstore_n (lv' := [(0, .ref hm), (1, .long (3660920872691483180 : Int64)), (3, .int (2 : Int32)), (4, .int (1 : Int32))]) B dX6_digest_114 rfl (by decide) [1, 0, 2, 3] rfl ?_
  refine g_iinc (lv' := [(0, .ref hm), (1, .long (3660920872691483180 : Int64)), (3, .int (2 : Int32)), (4, .int (2 : Int32))]) B dX6_digest_115 3 rfl (by decide) (by decide) [1, 2, 3, 0] rfl ?_
  refine g_goto (tgt := 94) B dX6_digest_118 (by decide) ?_
  refine g_iload B dX6_digest_94 3 rfl ?_
  refine g_iconst (v := (3 : Int32)) B dX6_digest_96 (by decide) ?_
  refine g_icmp_ge (tgt := 121) B dX6_digest_97 (by decide) (fun c40 => absurd c40 (by decide)) (fun _ => ?_)
  refine g_lload_n B dX6_digest_100 1 rfl ?_
  refine g_ldc2 (v := (31 : Int64)) B dX6_digest_101 (List.mem_of_getElem? (i := 3) rfl) ?_
  refine g_lmul (v := (2808082611178668884 : Int64)) B dX6_digest_104 (by decide) ?_
  refine g_aload_n B dX6_digest_105 0 rfl ?_
  refine g_iload_n B dX6_digest_106 2 rfl ?_
  refine g_iload B dX6_digest_107 3 rfl ?_
  refine g_callP (g_runV (q0 := 0) (ci := 6) B hK rfl rfl (PM.met (r_ofEdgeNow_2 l (D := D) (cI := cI) (cL := cL) (cZ := cZ) hm m1 m2 m3 m4 m5 m7 m9 m10 m11 m12 m13 m15 m16 m17 (0 : Int32) (1 : Int32) (0 : Int32) (2 : Int32) )) (gPp.pre (av := [.ref hm, .int (2 : Int32), .int (2 : Int32)]) (wc := [(hm, .inr (6, [.int (0 : Int32), .ref m1, .ref m2, .ref m3, .ref m4, .ref m5, .int (1 : Int32), .ref m7, .int (0 : Int32), .ref m9, .ref m10, .ref m11, .ref m12, .ref m13, .int (0 : Int32), .ref m15, .ref m16, .ref m17]))]) hK hN [0] rfl (by decide)) gX6_digest_X6_ofEdgeNow rfl rfl kd_X6_ofEdgeNow ⟨by decide, by decide⟩ (st := [.long (2808082611178668884 : Int64)]) rfl (Nat.le_of_ble_eq_true rfl) dX6_digest_109 ⟨by decide, by decide⟩) (fun u hu => ?_)
  refine g_i2l (v := (-1 : Int64)) B dX6_digest_112 (by decide) ?_
  refine g_ladd (v := (2808082611178668883 : Int64)) B dX6_digest_113 (by decide) ?_
  refine g_lstore_n (lv' := [(0, .ref hm), (1, .long (2808082611178668883 : Int64)), (3, .int (2 : Int32)), (4, .int (2 : Int32))]) B dX6_digest_114 rfl (by decide) [1, 0, 2, 3] rfl ?_
  refine g_iinc (lv' := [(0, .ref hm), (1, .long (2808082611178668883 : Int64)), (3, .int (2 : Int32)), (4, .int (3 : Int32))]) B dX6_digest_115 3 rfl (by decide) (by decide) [1, 2, 3, 0] rfl ?_
  refine g_goto (tgt := 94) B dX6_digest_118 (by decide) ?_
  refine g_iload B dX6_digest_94 3 rfl ?_
  refine g_iconst (v := (3 : Int32)) B dX6_digest_96 (by decide) ?_
  refine g_icmp_ge (tgt := 121) B dX6_digest_97 (by decide) (fun _ => ?_) (fun c42 => absurd (by decide) c42)
  refine g_iinc (lv' := [(0, .ref hm), (1, .long (2808082611178668883 : Int64)), (3, .int (3 : Int32)), (4, .int (3 : Int32))]) B dX6_digest_121 2 rfl (by decide) (by decide) [1, 2, 0, 3] rfl ?_
  refine g_goto (tgt := 85) B dX6_digest_124 (by decide) ?_
  refine g_iload_n B dX6_digest_85 2 rfl ?_
  refine g_bipush (v := (24 : Int32)) B dX6_digest_86 (by decide) ?_
  refine g_icmp_ge (tgt := 127) B dX6_digest_88 (by decide) (fun c43 => absurd c43 (by decide)) (fun _ => ?_)
  refine g_iconst (v := (0 : Int32)) B dX6_digest_91 (by decide) ?_
  refine g_istore (lv' := [(0, .ref hm), (1, .long (2808082611178668883 : Int64)), (3, .int (3 : Int32)), (4, .int (0 : Int32))]) B dX6_digest_92 (by decide) [1, 2, 3, 0] rfl ?_
  refine g_iload B dX6_digest_94 3 rfl ?_
  refine g_iconst (v := (3 : Int32)) B dX6_digest_96 (by decide) ?_
  refine g_icmp_ge (tgt := 121) B dX6_digest_97 (by decide) (fun c44 => absurd c44 (by decide)) (fun _ => ?_)
  refine g_lload_n B dX6_digest_100 1 rfl ?_
  refine g_ldc2 (v := (31 : Int64)) B dX6_digest_101 (List.mem_of_getElem? (i := 3) rfl) ?_
  refine g_lmul (v := (-5183159422009022707 : Int64)) B dX6_digest_104 (by decide) ?_
  refine g_aload_n B dX6_digest_105 0 rfl ?_
  refine g_iload_n B dX6_digest_106 2 rfl ?_
  refine g_iload B dX6_digest_107 3 rfl ?_
  refine g_callP (g_runV (q0 := 0) (ci := 6) B hK rfl rfl (PM.met (r_ofEdgeNow_n l (D := D) (cI := cI) (cL := cL) (cZ := cZ) hm m1 m2 m3 m4 m5 m7 m9 m10 m11 m12 m13 m15 m16 m17 (0 : Int32) (1 : Int32) (0 : Int32) (3 : Int32) (0 : Int32) (by first | assumption | decide))) (gPp.pre (av := [.ref hm, .int (3 : Int32), .int (0 : Int32)]) (wc := [(hm, .inr (6, [.int (0 : Int32), .ref m1, .ref m2, .ref m3, .ref m4, .ref m5, .int (1 : Int32), .ref m7, .int (0 : Int32), .ref m9, .ref m10, .ref m11, .ref m12, .ref m13, .int (0 : Int32), .ref m15, .ref m16, .ref m17]))]) hK hN [0] rfl (by decide)) gX6_digest_X6_ofEdgeNow rfl rfl kd_X6_ofEdgeNow ⟨by decide, by decide⟩ (st := [.long (-5183159422009022707 : Int64)]) rfl (Nat.le_of_ble_eq_true rfl) dX6_digest_109 ⟨by decide, by decide⟩) (fun u hu => ?_)
  refine g_i2l (v := (0 : Int64)) B dX6_digest_112 (by decide) ?_
  refine g_ladd (v := (-5183159422009022707 : Int64)) B dX6_digest_113 (by decide) ?_
  refine g_lstore_n (lv' := [(0, .ref hm), (1, .long (-5183159422009022707 : Int64)), (3, .int (3 : Int32)), (4, .int (0 : Int32))]) B dX6_digest_114 rfl (by decide) [1, 0, 2, 3] rfl ?_
  refine g_iinc (lv' := [(0, .ref hm), (1, .long (-5183159422009022707 : Int64)), (3, .int (3 : Int32)), (4, .int (1 : Int32))]) B dX6_digest_115 3 rfl (by decide) (by decide) [1, 2, 3, 0] rfl ?_
  refine g_goto (tgt := 94) B dX6_digest_118 (by decide) ?_
  refine g_iload B dX6_digest_94 3 rfl ?_
  refine g_iconst (v := (3 : Int32)) B dX6_digest_96 (by decide) ?_
  refine g_icmp_ge (tgt := 121) B dX6_digest_97 (by decide) (fun c46 => absurd c46 (by decide)) (fun _ => ?_)
  refine g_lload_n B dX6_digest_100 1 rfl ?_
  refine g_ldc2 (v := (31 : Int64)) B dX6_digest_101 (List.mem_of_getElem? (i := 3) rfl) ?_
  refine g_lmul (v := (5342754581106260627 : Int64)) B dX6_digest_104 (by decide) ?_
  refine g_aload_n B dX6_digest_105 0 rfl ?_
  refine g_iload_n B dX6_digest_106 2 rfl ?_
  refine g_iload B dX6_digest_107 3 rfl ?_
  refine g_callP (g_runV (q0 := 0) (ci := 6) B hK rfl rfl (PM.met (r_ofEdgeNow_n l (D := D) (cI := cI) (cL := cL) (cZ := cZ) hm m1 m2 m3 m4 m5 m7 m9 m10 m11 m12 m13 m15 m16 m17 (0 : Int32) (1 : Int32) (0 : Int32) (3 : Int32) (1 : Int32) (by first | assumption | decide))) (gPp.pre (av := [.ref hm, .int (3 : Int32), .int (1 : Int32)]) (wc := [(hm, .inr (6, [.int (0 : Int32), .ref m1, .ref m2, .ref m3, .ref m4, .ref m5, .int (1 : Int32), .ref m7, .int (0 : Int32), .ref m9, .ref m10, .ref m11, .ref m12, .ref m13, .int (0 : Int32), .ref m15, .ref m16, .ref m17]))]) hK hN [0] rfl (by decide)) gX6_digest_X6_ofEdgeNow rfl rfl kd_X6_ofEdgeNow ⟨by decide, by decide⟩ (st := [.long (5342754581106260627 : Int64)]) rfl (Nat.le_of_ble_eq_true rfl) dX6_digest_109 ⟨by decide, by decide⟩) (fun u hu => ?_)
  refine g_i2l (v := (0 : Int64)) B dX6_digest_112 (by decide) ?_
  refine g_ladd (v := (5342754581106260627 : Int64)) B dX6_digest_113 (by decide) ?_
  refine g_lstore_n (lv' := [(0, .ref hm), (1, .long (5342754581106260627 : Int64)), (3, .int (3 : Int32)), (4, .int (1 : Int32))]) B dX6_digest_114 rfl (by decide) [1, 0, 2, 3] rfl ?_
  refine g_iinc (lv' := [(0, .ref hm), (1, .long (5342754581106260627 : Int64)), (3, .int (3 : Int32)), (4, .int (2 : Int32))]) B dX6_digest_115 3 rfl (by decide) (by decide) [1, 2, 3, 0] rfl ?_
  refine g_goto (tgt := 94) B dX6_digest_118 (by decide) ?_
  refine g_iload B dX6_digest_94 3 rfl ?_
  refine g_iconst (v := (3 : Int32)) B dX6_digest_96 (by decide) ?_
  refine g_icmp_ge (tgt := 121) B dX6_digest_97 (by decide) (fun c48 => absurd c48 (by decide)) (fun _ => ?_)
  refine g_lload_n B dX6_digest_100 1 rfl ?_
  refine g_ldc2 (v := (31 : Int64)) B dX6_digest_101 (List.mem_of_getElem? (i := 3) rfl) ?_
  refine g_lmul (v := (-395304649091885107 : Int64)) B dX6_digest_104 (by decide) ?_
  refine g_aload_n B dX6_digest_105 0 rfl ?_
  refine g_iload_n B dX6_digest_106 2 rfl ?_
  refine g_iload B dX6_digest_107 3 rfl ?_
  refine g_callP (g_runV (q0 := 0) (ci := 6) B hK rfl rfl (PM.met (r_ofEdgeNow_2 l (D := D) (cI := cI) (cL := cL) (cZ := cZ) hm m1 m2 m3 m4 m5 m7 m9 m10 m11 m12 m13 m15 m16 m17 (0 : Int32) (1 : Int32) (0 : Int32) (3 : Int32) )) (gPp.pre (av := [.ref hm, .int (3 : Int32), .int (2 : Int32)]) (wc := [(hm, .inr (6, [.int (0 : Int32), .ref m1, .ref m2, .ref m3, .ref m4, .ref m5, .int (1 : Int32), .ref m7, .int (0 : Int32), .ref m9, .ref m10, .ref m11, .ref m12, .ref m13, .int (0 : Int32), .ref m15, .ref m16, .ref m17]))]) hK hN [0] rfl (by decide)) gX6_digest_X6_ofEdgeNow rfl rfl kd_X6_ofEdgeNow ⟨by decide, by decide⟩ (st := [.long (-395304649091885107 : Int64)]) rfl (Nat.le_of_ble_eq_true rfl) dX6_digest_109 ⟨by decide, by decide⟩) (fun u hu => ?_)
  refine g_i2l (v := (-1 : Int64)) B dX6_digest_112 (by decide) ?_
  refine g_ladd (v := (-395304649091885108 : Int64)) B dX6_digest_113 (by decide) ?_
  refine g_lstore_n (lv' := [(0, .ref hm), (1, .long (-395304649091885108 : Int64)), (3, .int (3 : Int32)), (4, .int (2 : Int32))]) B dX6_digest_114 rfl (by decide) [1, 0, 2, 3] rfl ?_
  refine g_iinc (lv' := [(0, .ref hm), (1, .long (-395304649091885108 : Int64)), (3, .int (3 : Int32)), (4, .int (3 : Int32))]) B dX6_digest_115 3 rfl (by decide) (by decide) [1, 2, 3, 0] rfl ?_
  refine g_goto (tgt := 94) B dX6_digest_118 (by decide) ?_
  refine g_iload B dX6_digest_94 3 rfl ?_
  refine g_iconst (v := (3 : Int32)) B dX6_digest_96 (by decide) ?_
  refine g_icmp_ge (tgt := 121) B dX6_digest_97 (by decide) (fun _ => ?_) (fun c50 => absurd (by decide) c50)
  refine g_iinc (lv' := [(0, .ref hm), (1, .long (-395304649091885108 : Int64)), (3, .int (4 : Int32)), (4, .int (3 : Int32))]) B dX6_digest_121 2 rfl (by decide) (by decide) [1, 2, 0, 3] rfl ?_
  refine g_goto (tgt := 85) B dX6_digest_124 (by decide) ?_
  refine g_iload_n B dX6_digest_85 2 rfl ?_
  refine g_bipush (v := (24 : Int32)) B dX6_digest_86 (by decide) ?_
  refine g_icmp_ge (tgt := 127) B dX6_digest_88 (by decide) (fun c51 => absurd c51 (by decide)) (fun _ => ?_)
  refine g_iconst (v := (0 : Int32)) B dX6_digest_91 (by decide) ?_
  refine g_istore (lv' := [(0, .ref hm), (1, .long (-395304649091885108 : Int64)), (3, .int (4 : Int32)), (4, .int (0 : Int32))]) B dX6_digest_92 (by decide) [1, 2, 3, 0] rfl ?_
  refine g_iload B dX6_digest_94 3 rfl ?_
  refine g_iconst (v := (3 : Int32)) B dX6_digest_96 (by decide) ?_
  refine g_icmp_ge (tgt := 121) B dX6_digest_97 (by decide) (fun c52 => absurd c52 (by decide)) (fun _ => ?_)
  refine g_lload_n B dX6_digest_100 1 rfl ?_
  refine g_ldc2 (v := (31 : Int64)) B dX6_digest_101 (List.mem_of_getElem? (i := 3) rfl) ?_
  refine g_lmul (v := (6192299951861113268 : Int64)) B dX6_digest_104 (by decide) ?_
  refine g_aload_n B dX6_digest_105 0 rfl ?_
  refine g_iload_n B dX6_digest_106 2 rfl ?_
  refine g_iload B dX6_digest_107 3 rfl ?_
  refine g_callP (g_runV (q0 := 0) (ci := 6) B hK rfl rfl (PM.met (r_ofEdgeNow_n l (D := D) (cI := cI) (cL := cL) (cZ := cZ) hm m1 m2 m3 m4 m5 m7 m9 m10 m11 m12 m13 m15 m16 m17 (0 : Int32) (1 : Int32) (0 : Int32) (4 : Int32) (0 : Int32) (by first | assumption | decide))) (gPp.pre (av := [.ref hm, .int (4 : Int32), .int (0 : Int32)]) (wc := [(hm, .inr (6, [.int (0 : Int32), .ref m1, .ref m2, .ref m3, .ref m4, .ref m5, .int (1 : Int32), .ref m7, .int (0 : Int32), .ref m9, .ref m10, .ref m11, .ref m12, .ref m13, .int (0 : Int32), .ref m15, .ref m16, .ref m17]))]) hK hN [0] rfl (by decide)) gX6_digest_X6_ofEdgeNow rfl rfl kd_X6_ofEdgeNow ⟨by decide, by decide⟩ (st := [.long (6192299951861113268 : Int64)]) rfl (Nat.le_of_ble_eq_true rfl) dX6_digest_109 ⟨by decide, by decide⟩) (fun u hu => ?_)
  refine g_i2l (v := (0 : Int64)) B dX6_digest_112 (by decide) ?_
  refine g_ladd (v := (6192299951861113268 : Int64)) B dX6_digest_113 (by decide) ?_
  refine g_lstore_n (lv' := [(0, .ref hm), (1, .long (6192299951861113268 : Int64)), (3, .int (4 : Int32)), (4, .int (0 : Int32))]) B dX6_digest_114 rfl (by decide) [1, 0, 2, 3] rfl ?_
  refine g_iinc (lv' := [(0, .ref hm), (1, .long (6192299951861113268 : Int64)), (3, .int (4 : Int32)), (4, .int (1 : Int32))]) B dX6_digest_115 3 rfl (by decide) (by decide) [1, 2, 3, 0] rfl ?_
  refine g_goto (tgt := 94) B dX6_digest_118 (by decide) ?_
  refine g_iload B dX6_digest_94 3 rfl ?_
  refine g_iconst (v := (3 : Int32)) B dX6_digest_96 (by decide) ?_
  refine g_icmp_ge (tgt := 121) B dX6_digest_97 (by decide) (fun c54 => absurd c54 (by decide)) (fun _ => ?_)
  refine g_lload_n B dX6_digest_100 1 rfl ?_
  refine g_ldc2 (v := (31 : Int64)) B dX6_digest_101 (List.mem_of_getElem? (i := 3) rfl) ?_
  refine g_lmul (v := (7493857770598995148 : Int64)) B dX6_digest_104 (by decide) ?_
  refine g_aload_n B dX6_digest_105 0 rfl ?_
  refine g_iload_n B dX6_digest_106 2 rfl ?_
  refine g_iload B dX6_digest_107 3 rfl ?_
  refine g_callP (g_runV (q0 := 0) (ci := 6) B hK rfl rfl (PM.met (r_ofEdgeNow_n l (D := D) (cI := cI) (cL := cL) (cZ := cZ) hm m1 m2 m3 m4 m5 m7 m9 m10 m11 m12 m13 m15 m16 m17 (0 : Int32) (1 : Int32) (0 : Int32) (4 : Int32) (1 : Int32) (by first | assumption | decide))) (gPp.pre (av := [.ref hm, .int (4 : Int32), .int (1 : Int32)]) (wc := [(hm, .inr (6, [.int (0 : Int32), .ref m1, .ref m2, .ref m3, .ref m4, .ref m5, .int (1 : Int32), .ref m7, .int (0 : Int32), .ref m9, .ref m10, .ref m11, .ref m12, .ref m13, .int (0 : Int32), .ref m15, .ref m16, .ref m17]))]) hK hN [0] rfl (by decide)) gX6_digest_X6_ofEdgeNow rfl rfl kd_X6_ofEdgeNow ⟨by decide, by decide⟩ (st := [.long (7493857770598995148 : Int64)]) rfl (Nat.le_of_ble_eq_true rfl) dX6_digest_109 ⟨by decide, by decide⟩) (fun u hu => ?_)
  refine g_i2l (v := (0 : Int64)) B dX6_digest_112 (by decide) ?_
  refine g_ladd (v := (7493857770598995148 : Int64)) B dX6_digest_113 (by decide) ?_
  refine g_lstore_n (lv' := [(0, .ref hm), (1, .long (7493857770598995148 : Int64)), (3, .int (4 : Int32)), (4, .int (1 : Int32))]) B dX6_digest_114 rfl (by decide) [1, 0, 2, 3] rfl ?_
  refine g_iinc (lv' := [(0, .ref hm), (1, .long (7493857770598995148 : Int64)), (3, .int (4 : Int32)), (4, .int (2 : Int32))]) B dX6_digest_115 3 rfl (by decide) (by decide) [1, 2, 3, 0] rfl ?_
  refine g_goto (tgt := 94) B dX6_digest_118 (by decide) ?_
  refine g_iload B dX6_digest_94 3 rfl ?_
  refine g_iconst (v := (3 : Int32)) B dX6_digest_96 (by decide) ?_
  refine g_icmp_ge (tgt := 121) B dX6_digest_97 (by decide) (fun c56 => absurd c56 (by decide)) (fun _ => ?_)
  refine g_lload_n B dX6_digest_100 1 rfl ?_
  refine g_ldc2 (v := (31 : Int64)) B dX6_digest_101 (List.mem_of_getElem? (i := 3) rfl) ?_
  refine g_lmul (v := (-7498082069655321420 : Int64)) B dX6_digest_104 (by decide) ?_
  refine g_aload_n B dX6_digest_105 0 rfl ?_
  refine g_iload_n B dX6_digest_106 2 rfl ?_
  refine g_iload B dX6_digest_107 3 rfl ?_
  refine g_callP (g_runV (q0 := 0) (ci := 6) B hK rfl rfl (PM.met (r_ofEdgeNow_2 l (D := D) (cI := cI) (cL := cL) (cZ := cZ) hm m1 m2 m3 m4 m5 m7 m9 m10 m11 m12 m13 m15 m16 m17 (0 : Int32) (1 : Int32) (0 : Int32) (4 : Int32) )) (gPp.pre (av := [.ref hm, .int (4 : Int32), .int (2 : Int32)]) (wc := [(hm, .inr (6, [.int (0 : Int32), .ref m1, .ref m2, .ref m3, .ref m4, .ref m5, .int (1 : Int32), .ref m7, .int (0 : Int32), .ref m9, .ref m10, .ref m11, .ref m12, .ref m13, .int (0 : Int32), .ref m15, .ref m16, .ref m17]))]) hK hN [0] rfl (by decide)) gX6_digest_X6_ofEdgeNow rfl rfl kd_X6_ofEdgeNow ⟨by decide, by decide⟩ (st := [.long (-7498082069655321420 : Int64)]) rfl (Nat.le_of_ble_eq_true rfl) dX6_digest_109 ⟨by decide, by decide⟩) (fun u hu => ?_)
  refine g_i2l (v := (-1 : Int64)) B dX6_digest_112 (by decide) ?_
  refine g_ladd (v := (-7498082069655321421 : Int64)) B dX6_digest_113 (by decide) ?_
  refine g_lstore_n (lv' := [(0, .ref hm), (1, .long (-7498082069655321421 : Int64)), (3, .int (4 : Int32)), (4, .int (2 : Int32))]) B dX6_digest_114 rfl (by decide) [1, 0, 2, 3] rfl ?_
  refine g_iinc (lv' := [(0, .ref hm), (1, .long (-7498082069655321421 : Int64)), (3, .int (4 : Int32)), (4, .int (3 : Int32))]) B dX6_digest_115 3 rfl (by decide) (by decide) [1, 2, 3, 0] rfl ?_
  refine g_goto (tgt := 94) B dX6_digest_118 (by decide) ?_
  refine g_iload B dX6_digest_94 3 rfl ?_
  refine g_iconst (v := (3 : Int32)) B dX6_digest_96 (by decide) ?_
  refine g_icmp_ge (tgt := 121) B dX6_digest_97 (by decide) (fun _ => ?_) (fun c58 => absurd (by decide) c58)
  refine g_iinc (lv' := [(0, .ref hm), (1, .long (-7498082069655321421 : Int64)), (3, .int (5 : Int32)), (4, .int (3 : Int32))]) B dX6_digest_121 2 rfl (by decide) (by decide) [1, 2, 0, 3] rfl ?_
  refine g_goto (tgt := 85) B dX6_digest_124 (by decide) ?_
  refine g_iload_n B dX6_digest_85 2 rfl ?_
  refine g_bipush (v := (24 : Int32)) B dX6_digest_86 (by decide) ?_
  refine g_icmp_ge (tgt := 127) B dX6_digest_88 (by decide) (fun c59 => absurd c59 (by decide)) (fun _ => ?_)
  refine g_iconst (v := (0 : Int32)) B dX6_digest_91 (by decide) ?_
  refine g_istore (lv' := [(0, .ref hm), (1, .long (-7498082069655321421 : Int64)), (3, .int (5 : Int32)), (4, .int (0 : Int32))]) B dX6_digest_92 (by decide) [1, 2, 3, 0] rfl ?_
  refine g_iload B dX6_digest_94 3 rfl ?_
  refine g_iconst (v := (3 : Int32)) B dX6_digest_96 (by decide) ?_
  refine g_icmp_ge (tgt := 121) B dX6_digest_97 (by decide) (fun c60 => absurd c60 (by decide)) (fun _ => ?_)
  refine g_lload_n B dX6_digest_100 1 rfl ?_
  refine g_ldc2 (v := (31 : Int64)) B dX6_digest_101 (List.mem_of_getElem? (i := 3) rfl) ?_
  refine g_lmul (v := (7367128798909206957 : Int64)) B dX6_digest_104 (by decide) ?_
  refine g_aload_n B dX6_digest_105 0 rfl ?_
  refine g_iload_n B dX6_digest_106 2 rfl ?_
  refine g_iload B dX6_digest_107 3 rfl ?_
  refine g_callP (g_runV (q0 := 0) (ci := 6) B hK rfl rfl (PM.met (r_ofEdgeNow_n l (D := D) (cI := cI) (cL := cL) (cZ := cZ) hm m1 m2 m3 m4 m5 m7 m9 m10 m11 m12 m13 m15 m16 m17 (0 : Int32) (1 : Int32) (0 : Int32) (5 : Int32) (0 : Int32) (by first | assumption | decide))) (gPp.pre (av := [.ref hm, .int (5 : Int32), .int (0 : Int32)]) (wc := [(hm, .inr (6, [.int (0 : Int32), .ref m1, .ref m2, .ref m3, .ref m4, .ref m5, .int (1 : Int32), .ref m7, .int (0 : Int32), .ref m9, .ref m10, .ref m11, .ref m12, .ref m13, .int (0 : Int32), .ref m15, .ref m16, .ref m17]))]) hK hN [0] rfl (by decide)) gX6_digest_X6_ofEdgeNow rfl rfl kd_X6_ofEdgeNow ⟨by decide, by decide⟩ (st := [.long (7367128798909206957 : Int64)]) rfl (Nat.le_of_ble_eq_true rfl) dX6_digest_109 ⟨by decide, by decide⟩) (fun u hu => ?_)
  refine g_i2l (v := (0 : Int64)) B dX6_digest_112 (by decide) ?_
  refine g_ladd (v := (7367128798909206957 : Int64)) B dX6_digest_113 (by decide) ?_
  refine g_lstore_n (lv' := [(0, .ref hm), (1, .long (7367128798909206957 : Int64)), (3, .int (5 : Int32)), (4, .int (0 : Int32))]) B dX6_digest_114 rfl (by decide) [1, 0, 2, 3] rfl ?_
  refine g_iinc (lv' := [(0, .ref hm), (1, .long (7367128798909206957 : Int64)), (3, .int (5 : Int32)), (4, .int (1 : Int32))]) B dX6_digest_115 3 rfl (by decide) (by decide) [1, 2, 3, 0] rfl ?_
  refine g_goto (tgt := 94) B dX6_digest_118 (by decide) ?_
  refine g_iload B dX6_digest_94 3 rfl ?_
  refine g_iconst (v := (3 : Int32)) B dX6_digest_96 (by decide) ?_
  refine g_icmp_ge (tgt := 121) B dX6_digest_97 (by decide) (fun c62 => absurd c62 (by decide)) (fun _ => ?_)
  refine g_lload_n B dX6_digest_100 1 rfl ?_
  refine g_ldc2 (v := (31 : Int64)) B dX6_digest_101 (List.mem_of_getElem? (i := 3) rfl) ?_
  refine g_lmul (v := (7020063881670796275 : Int64)) B dX6_digest_104 (by decide) ?_
  refine g_aload_n B dX6_digest_105 0 rfl ?_
  refine g_iload_n B dX6_digest_106 2 rfl ?_
  refine g_iload B dX6_digest_107 3 rfl ?_
  refine g_callP (g_runV (q0 := 0) (ci := 6) B hK rfl rfl (PM.met (r_ofEdgeNow_n l (D := D) (cI := cI) (cL := cL) (cZ := cZ) hm m1 m2 m3 m4 m5 m7 m9 m10 m11 m12 m13 m15 m16 m17 (0 : Int32) (1 : Int32) (0 : Int32) (5 : Int32) (1 : Int32) (by first | assumption | decide))) (gPp.pre (av := [.ref hm, .int (5 : Int32), .int (1 : Int32)]) (wc := [(hm, .inr (6, [.int (0 : Int32), .ref m1, .ref m2, .ref m3, .ref m4, .ref m5, .int (1 : Int32), .ref m7, .int (0 : Int32), .ref m9, .ref m10, .ref m11, .ref m12, .ref m13, .int (0 : Int32), .ref m15, .ref m16, .ref m17]))]) hK hN [0] rfl (by decide)) gX6_digest_X6_ofEdgeNow rfl rfl kd_X6_ofEdgeNow ⟨by decide, by decide⟩ (st := [.long (7020063881670796275 : Int64)]) rfl (Nat.le_of_ble_eq_true rfl) dX6_digest_109 ⟨by decide, by decide⟩) (fun u hu => ?_)
  refine g_i2l (v := (0 : Int64)) B dX6_digest_112 (by decide) ?_
  refine g_ladd (v := (7020063881670796275 : Int64)) B dX6_digest_113 (by decide) ?_
  refine g_lstore_n (lv' := [(0, .ref hm), (1, .long (7020063881670796275 : Int64)), (3, .int (5 : Int32)), (4, .int (1 : Int32))]) B dX6_digest_114 rfl (by decide) [1, 0, 2, 3] rfl ?_
  refine g_iinc (lv' := [(0, .ref hm), (1, .long (7020063881670796275 : Int64)), (3, .int (5 : Int32)), (4, .int (2 : Int32))]) B dX6_digest_115 3 rfl (by decide) (by decide) [1, 2, 3, 0] rfl ?_
  refine g_goto (tgt := 94) B dX6_digest_118 (by decide) ?_
  refine g_iload B dX6_digest_94 3 rfl ?_
  refine g_iconst (v := (3 : Int32)) B dX6_digest_96 (by decide) ?_
  refine g_icmp_ge (tgt := 121) B dX6_digest_97 (by decide) (fun c64 => absurd c64 (by decide)) (fun _ => ?_)
  refine g_lload_n B dX6_digest_100 1 rfl ?_
  refine g_ldc2 (v := (31 : Int64)) B dX6_digest_101 (List.mem_of_getElem? (i := 3) rfl) ?_
  refine g_lmul (v := (-3738948552719934867 : Int64)) B dX6_digest_104 (by decide) ?_
  refine g_aload_n B dX6_digest_105 0 rfl ?_
  refine g_iload_n B dX6_digest_106 2 rfl ?_
  refine g_iload B dX6_digest_107 3 rfl ?_
  refine g_callP (g_runV (q0 := 0) (ci := 6) B hK rfl rfl (PM.met (r_ofEdgeNow_2 l (D := D) (cI := cI) (cL := cL) (cZ := cZ) hm m1 m2 m3 m4 m5 m7 m9 m10 m11 m12 m13 m15 m16 m17 (0 : Int32) (1 : Int32) (0 : Int32) (5 : Int32) )) (gPp.pre (av := [.ref hm, .int (5 : Int32), .int (2 : Int32)]) (wc := [(hm, .inr (6, [.int (0 : Int32), .ref m1, .ref m2, .ref m3, .ref m4, .ref m5, .int (1 : Int32), .ref m7, .int (0 : Int32), .ref m9, .ref m10, .ref m11, .ref m12, .ref m13, .int (0 : Int32), .ref m15, .ref m16, .ref m17]))]) hK hN [0] rfl (by decide)) gX6_digest_X6_ofEdgeNow rfl rfl kd_X6_ofEdgeNow ⟨by decide, by decide⟩ (st := [.long (-3738948552719934867 : Int64)]) rfl (Nat.le_of_ble_eq_true rfl) dX6_digest_109 ⟨by decide, by decide⟩) (fun u hu => ?_)
  refine g_i2l (v := (-1 : Int64)) B dX6_digest_112 (by decide) ?_
  refine g_ladd (v := (-3738948552719934868 : Int64)) B dX6_digest_113 (by decide) ?_
  refine g_lstore_n (lv' := [(0, .ref hm), (1, .long (-3738948552719934868 : Int64)), (3, .int (5 : Int32)), (4, .int (2 : Int32))]) B dX6_digest_114 rfl (by decide) [1, 0, 2, 3] rfl ?_
  refine g_iinc (lv' := [(0, .ref hm), (1, .long (-3738948552719934868 : Int64)), (3, .int (5 : Int32)), (4, .int (3 : Int32))]) B dX6_digest_115 3 rfl (by decide) (by decide) [1, 2, 3, 0] rfl ?_
  refine g_goto (tgt := 94) B dX6_digest_118 (by decide) ?_
  refine g_iload B dX6_digest_94 3 rfl ?_
  refine g_iconst (v := (3 : Int32)) B dX6_digest_96 (by decide) ?_
  refine g_icmp_ge (tgt := 121) B dX6_digest_97 (by decide) (fun _ => ?_) (fun c66 => absurd (by decide) c66)
  refine g_iinc (lv' := [(0, .ref hm), (1, .long (-3738948552719934868 : Int64)), (3, .int (6 : Int32)), (4, .int (3 : Int32))]) B dX6_digest_121 2 rfl (by decide) (by decide) [1, 2, 0, 3] rfl ?_
  refine g_goto (tgt := 85) B dX6_digest_124 (by decide) ?_
  refine g_iload_n B dX6_digest_85 2 rfl ?_
  refine g_bipush (v := (24 : Int32)) B dX6_digest_86 (by decide) ?_
  refine g_icmp_ge (tgt := 127) B dX6_digest_88 (by decide) (fun c67 => absurd c67 (by decide)) (fun _ => ?_)
  refine g_iconst (v := (0 : Int32)) B dX6_digest_91 (by decide) ?_
  refine g_istore (lv' := [(0, .ref hm), (1, .long (-3738948552719934868 : Int64)), (3, .int (6 : Int32)), (4, .int (0 : Int32))]) B dX6_digest_92 (by decide) [1, 2, 3, 0] rfl ?_
  refine g_iload B dX6_digest_94 3 rfl ?_
  refine g_iconst (v := (3 : Int32)) B dX6_digest_96 (by decide) ?_
  refine g_icmp_ge (tgt := 121) B dX6_digest_97 (by decide) (fun c68 => absurd c68 (by decide)) (fun _ => ?_)
  refine g_lload_n B dX6_digest_100 1 rfl ?_
  refine g_ldc2 (v := (31 : Int64)) B dX6_digest_101 (List.mem_of_getElem? (i := 3) rfl) ?_
  refine g_lmul (v := (-5226940692060671212 : Int64)) B dX6_digest_104 (by decide) ?_
  refine g_aload_n B dX6_digest_105 0 rfl ?_
  refine g_iload_n B dX6_digest_106 2 rfl ?_
  refine g_iload B dX6_digest_107 3 rfl ?_
  refine g_callP (g_runV (q0 := 0) (ci := 6) B hK rfl rfl (PM.met (r_ofEdgeNow_n l (D := D) (cI := cI) (cL := cL) (cZ := cZ) hm m1 m2 m3 m4 m5 m7 m9 m10 m11 m12 m13 m15 m16 m17 (0 : Int32) (1 : Int32) (0 : Int32) (6 : Int32) (0 : Int32) (by first | assumption | decide))) (gPp.pre (av := [.ref hm, .int (6 : Int32), .int (0 : Int32)]) (wc := [(hm, .inr (6, [.int (0 : Int32), .ref m1, .ref m2, .ref m3, .ref m4, .ref m5, .int (1 : Int32), .ref m7, .int (0 : Int32), .ref m9, .ref m10, .ref m11, .ref m12, .ref m13, .int (0 : Int32), .ref m15, .ref m16, .ref m17]))]) hK hN [0] rfl (by decide)) gX6_digest_X6_ofEdgeNow rfl rfl kd_X6_ofEdgeNow ⟨by decide, by decide⟩ (st := [.long (-5226940692060671212 : Int64)]) rfl (Nat.le_of_ble_eq_true rfl) dX6_digest_109 ⟨by decide, by decide⟩) (fun u hu => ?_)
  refine g_i2l (v := (0 : Int64)) B dX6_digest_112 (by decide) ?_
  refine g_ladd (v := (-5226940692060671212 : Int64)) B dX6_digest_113 (by decide) ?_
  refine g_lstore_n (lv' := [(0, .ref hm), (1, .long (-5226940692060671212 : Int64)), (3, .int (6 : Int32)), (4, .int (0 : Int32))]) B dX6_digest_114 rfl (by decide) [1, 0, 2, 3] rfl ?_
  refine g_iinc (lv' := [(0, .ref hm), (1, .long (-5226940692060671212 : Int64)), (3, .int (6 : Int32)), (4, .int (1 : Int32))]) B dX6_digest_115 3 rfl (by decide) (by decide) [1, 2, 3, 0] rfl ?_
  refine g_goto (tgt := 94) B dX6_digest_118 (by decide) ?_
  refine g_iload B dX6_digest_94 3 rfl ?_
  refine g_iconst (v := (3 : Int32)) B dX6_digest_96 (by decide) ?_
  refine g_icmp_ge (tgt := 121) B dX6_digest_97 (by decide) (fun c70 => absurd c70 (by decide)) (fun _ => ?_)
  refine g_lload_n B dX6_digest_100 1 rfl ?_
  refine g_ldc2 (v := (31 : Int64)) B dX6_digest_101 (List.mem_of_getElem? (i := 3) rfl) ?_
  refine g_lmul (v := (3985535209505156972 : Int64)) B dX6_digest_104 (by decide) ?_
  refine g_aload_n B dX6_digest_105 0 rfl ?_
  refine g_iload_n B dX6_digest_106 2 rfl ?_
  refine g_iload B dX6_digest_107 3 rfl ?_
  refine g_callP (g_runV (q0 := 0) (ci := 6) B hK rfl rfl (PM.met (r_ofEdgeNow_n l (D := D) (cI := cI) (cL := cL) (cZ := cZ) hm m1 m2 m3 m4 m5 m7 m9 m10 m11 m12 m13 m15 m16 m17 (0 : Int32) (1 : Int32) (0 : Int32) (6 : Int32) (1 : Int32) (by first | assumption | decide))) (gPp.pre (av := [.ref hm, .int (6 : Int32), .int (1 : Int32)]) (wc := [(hm, .inr (6, [.int (0 : Int32), .ref m1, .ref m2, .ref m3, .ref m4, .ref m5, .int (1 : Int32), .ref m7, .int (0 : Int32), .ref m9, .ref m10, .ref m11, .ref m12, .ref m13, .int (0 : Int32), .ref m15, .ref m16, .ref m17]))]) hK hN [0] rfl (by decide)) gX6_digest_X6_ofEdgeNow rfl rfl kd_X6_ofEdgeNow ⟨by decide, by decide⟩ (st := [.long (3985535209505156972 : Int64)]) rfl (Nat.le_of_ble_eq_true rfl) dX6_digest_109 ⟨by decide, by decide⟩) (fun u hu => ?_)
  refine g_i2l (v := (0 : Int64)) B dX6_digest_112 (by decide) ?_
  refine g_ladd (v := (3985535209505156972 : Int64)) B dX6_digest_113 (by decide) ?_
  refine g_lstore_n (lv' := [(0, .ref hm), (1, .long (3985535209505156972 : Int64)), (3, .int (6 : Int32)), (4, .int (1 : Int32))]) B dX6_digest_114 rfl (by decide) [1, 0, 2, 3] rfl ?_
  refine g_iinc (lv' := [(0, .ref hm), (1, .long (3985535209505156972 : Int64)), (3, .int (6 : Int32)), (4, .int (2 : Int32))]) B dX6_digest_115 3 rfl (by decide) (by decide) [1, 2, 3, 0] rfl ?_
  refine g_goto (tgt := 94) B dX6_digest_118 (by decide) ?_
  refine g_iload B dX6_digest_94 3 rfl ?_
  refine g_iconst (v := (3 : Int32)) B dX6_digest_96 (by decide) ?_
  refine g_icmp_ge (tgt := 121) B dX6_digest_97 (by decide) (fun c72 => absurd c72 (by decide)) (fun _ => ?_)
  refine g_lload_n B dX6_digest_100 1 rfl ?_
  refine g_ldc2 (v := (31 : Int64)) B dX6_digest_101 (List.mem_of_getElem? (i := 3) rfl) ?_
  refine g_lmul (v := (-5575617021306995180 : Int64)) B dX6_digest_104 (by decide) ?_
  refine g_aload_n B dX6_digest_105 0 rfl ?_
  refine g_iload_n B dX6_digest_106 2 rfl ?_
  refine g_iload B dX6_digest_107 3 rfl ?_
  refine g_callP (g_runV (q0 := 0) (ci := 6) B hK rfl rfl (PM.met (r_ofEdgeNow_2 l (D := D) (cI := cI) (cL := cL) (cZ := cZ) hm m1 m2 m3 m4 m5 m7 m9 m10 m11 m12 m13 m15 m16 m17 (0 : Int32) (1 : Int32) (0 : Int32) (6 : Int32) )) (gPp.pre (av := [.ref hm, .int (6 : Int32), .int (2 : Int32)]) (wc := [(hm, .inr (6, [.int (0 : Int32), .ref m1, .ref m2, .ref m3, .ref m4, .ref m5, .int (1 : Int32), .ref m7, .int (0 : Int32), .ref m9, .ref m10, .ref m11, .ref m12, .ref m13, .int (0 : Int32), .ref m15, .ref m16, .ref m17]))]) hK hN [0] rfl (by decide)) gX6_digest_X6_ofEdgeNow rfl rfl kd_X6_ofEdgeNow ⟨by decide, by decide⟩ (st := [.long (-5575617021306995180 : Int64)]) rfl (Nat.le_of_ble_eq_true rfl) dX6_digest_109 ⟨by decide, by decide⟩) (fun u hu => ?_)
  refine g_i2l (v := (-1 : Int64)) B dX6_digest_112 (by decide) ?_
  refine g_ladd (v := (-5575617021306995181 : Int64)) B dX6_digest_113 (by decide) ?_
  refine g_lstore_n (lv' := [(0, .ref hm), (1, .long (-5575617021306995181 : Int64)), (3, .int (6 : Int32)), (4, .int (2 : Int32))]) B dX6_digest_114 rfl (by decide) [1, 0, 2, 3] rfl ?_
  refine g_iinc (lv' := [(0, .ref hm), (1, .long (-5575617021306995181 : Int64)), (3, .int (6 : Int32)), (4, .int (3 : Int32))]) B dX6_digest_115 3 rfl (by decide) (by decide) [1, 2, 3, 0] rfl ?_
  refine g_goto (tgt := 94) B dX6_digest_118 (by decide) ?_
  refine g_iload B dX6_digest_94 3 rfl ?_
  refine g_iconst (v := (3 : Int32)) B dX6_digest_96 (by decide) ?_
  refine g_icmp_ge (tgt := 121) B dX6_digest_97 (by decide) (fun _ => ?_) (fun c74 => absurd (by decide) c74)
  refine g_iinc (lv' := [(0, .ref hm), (1, .long (-5575617021306995181 : Int64)), (3, .int (7 : Int32)), (4, .int (3 : Int32))]) B dX6_digest_121 2 rfl (by decide) (by decide) [1, 2, 0, 3] rfl ?_
  refine g_goto (tgt := 85) B dX6_digest_124 (by decide) ?_
  refine g_iload_n B dX6_digest_85 2 rfl ?_
  refine g_bipush (v := (24 : Int32)) B dX6_digest_86 (by decide) ?_
  refine g_icmp_ge (tgt := 127) B dX6_digest_88 (by decide) (fun c75 => absurd c75 (by decide)) (fun _ => ?_)
  refine g_iconst (v := (0 : Int32)) B dX6_digest_91 (by decide) ?_
  refine g_istore (lv' := [(0, .ref hm), (1, .long (-5575617021306995181 : Int64)), (3, .int (7 : Int32)), (4, .int (0 : Int32))]) B dX6_digest_92 (by decide) [1, 2, 3, 0] rfl ?_
  refine g_iload B dX6_digest_94 3 rfl ?_
  refine g_iconst (v := (3 : Int32)) B dX6_digest_96 (by decide) ?_
  refine g_icmp_ge (tgt := 121) B dX6_digest_97 (by decide) (fun c76 => absurd c76 (by decide)) (fun _ => ?_)
  refine g_lload_n B dX6_digest_100 1 rfl ?_
  refine g_ldc2 (v := (31 : Int64)) B dX6_digest_101 (List.mem_of_getElem? (i := 3) rfl) ?_
  refine g_lmul (v := (-6823430997130886067 : Int64)) B dX6_digest_104 (by decide) ?_
  refine g_aload_n B dX6_digest_105 0 rfl ?_
  refine g_iload_n B dX6_digest_106 2 rfl ?_
  refine g_iload B dX6_digest_107 3 rfl ?_
  refine g_callP (g_runV (q0 := 0) (ci := 6) B hK rfl rfl (PM.met (r_ofEdgeNow_n l (D := D) (cI := cI) (cL := cL) (cZ := cZ) hm m1 m2 m3 m4 m5 m7 m9 m10 m11 m12 m13 m15 m16 m17 (0 : Int32) (1 : Int32) (0 : Int32) (7 : Int32) (0 : Int32) (by first | assumption | decide))) (gPp.pre (av := [.ref hm, .int (7 : Int32), .int (0 : Int32)]) (wc := [(hm, .inr (6, [.int (0 : Int32), .ref m1, .ref m2, .ref m3, .ref m4, .ref m5, .int (1 : Int32), .ref m7, .int (0 : Int32), .ref m9, .ref m10, .ref m11, .ref m12, .ref m13, .int (0 : Int32), .ref m15, .ref m16, .ref m17]))]) hK hN [0] rfl (by decide)) gX6_digest_X6_ofEdgeNow rfl rfl kd_X6_ofEdgeNow ⟨by decide, by decide⟩ (st := [.long (-6823430997130886067 : Int64)]) rfl (Nat.le_of_ble_eq_true rfl) dX6_digest_109 ⟨by decide, by decide⟩) (fun u hu => ?_)
  refine g_i2l (v := (0 : Int64)) B dX6_digest_112 (by decide) ?_
  refine g_ladd (v := (-6823430997130886067 : Int64)) B dX6_digest_113 (by decide) ?_
  refine g_lstore_n (lv' := [(0, .ref hm), (1, .long (-6823430997130886067 : Int64)), (3, .int (7 : Int32)), (4, .int (0 : Int32))]) B dX6_digest_114 rfl (by decide) [1, 0, 2, 3] rfl ?_
  refine g_iinc (lv' := [(0, .ref hm), (1, .long (-6823430997130886067 : Int64)), (3, .int (7 : Int32)), (4, .int (1 : Int32))]) B dX6_digest_115 3 rfl (by decide) (by decide) [1, 2, 3, 0] rfl ?_
  refine g_goto (tgt := 94) B dX6_digest_118 (by decide) ?_
  refine g_iload B dX6_digest_94 3 rfl ?_
  refine g_iconst (v := (3 : Int32)) B dX6_digest_96 (by decide) ?_
  refine g_icmp_ge (tgt := 121) B dX6_digest_97 (by decide) (fun c78 => absurd c78 (by decide)) (fun _ => ?_)
  refine g_lload_n B dX6_digest_100 1 rfl ?_
  refine g_ldc2 (v := (31 : Int64)) B dX6_digest_101 (List.mem_of_getElem? (i := 3) rfl) ?_
  refine g_lmul (v := (-8612176100252400301 : Int64)) B dX6_digest_104 (by decide) ?_
  refine g_aload_n B dX6_digest_105 0 rfl ?_
  refine g_iload_n B dX6_digest_106 2 rfl ?_
  refine g_iload B dX6_digest_107 3 rfl ?_
  refine g_callP (g_runV (q0 := 0) (ci := 6) B hK rfl rfl (PM.met (r_ofEdgeNow_n l (D := D) (cI := cI) (cL := cL) (cZ := cZ) hm m1 m2 m3 m4 m5 m7 m9 m10 m11 m12 m13 m15 m16 m17 (0 : Int32) (1 : Int32) (0 : Int32) (7 : Int32) (1 : Int32) (by first | assumption | decide))) (gPp.pre (av := [.ref hm, .int (7 : Int32), .int (1 : Int32)]) (wc := [(hm, .inr (6, [.int (0 : Int32), .ref m1, .ref m2, .ref m3, .ref m4, .ref m5, .int (1 : Int32), .ref m7, .int (0 : Int32), .ref m9, .ref m10, .ref m11, .ref m12, .ref m13, .int (0 : Int32), .ref m15, .ref m16, .ref m17]))]) hK hN [0] rfl (by decide)) gX6_digest_X6_ofEdgeNow rfl rfl kd_X6_ofEdgeNow ⟨by decide, by decide⟩ (st := [.long (-8612176100252400301 : Int64)]) rfl (Nat.le_of_ble_eq_true rfl) dX6_digest_109 ⟨by decide, by decide⟩) (fun u hu => ?_)
  refine g_i2l (v := (0 : Int64)) B dX6_digest_112 (by decide) ?_
  refine g_ladd (v := (-8612176100252400301 : Int64)) B dX6_digest_113 (by decide) ?_
  refine g_lstore_n (lv' := [(0, .ref hm), (1, .long (-8612176100252400301 : Int64)), (3, .int (7 : Int32)), (4, .int (1 : Int32))]) B dX6_digest_114 rfl (by decide) [1, 0, 2, 3] rfl ?_
  refine g_iinc (lv' := [(0, .ref hm), (1, .long (-8612176100252400301 : Int64)), (3, .int (7 : Int32)), (4, .int (2 : Int32))]) B dX6_digest_115 3 rfl (by decide) (by decide) [1, 2, 3, 0] rfl ?_
  refine g_goto (tgt := 94) B dX6_digest_118 (by decide) ?_
  refine g_iload B dX6_digest_94 3 rfl ?_
  refine g_iconst (v := (3 : Int32)) B dX6_digest_96 (by decide) ?_
  refine g_icmp_ge (tgt := 121) B dX6_digest_97 (by decide) (fun c80 => absurd c80 (by decide)) (fun _ => ?_)
  refine g_lload_n B dX6_digest_100 1 rfl ?_
  refine g_ldc2 (v := (31 : Int64)) B dX6_digest_101 (List.mem_of_getElem? (i := 3) rfl) ?_
  refine g_lmul (v := (-8723042075890686707 : Int64)) B dX6_digest_104 (by decide) ?_
  refine g_aload_n B dX6_digest_105 0 rfl ?_
  refine g_iload_n B dX6_digest_106 2 rfl ?_
  refine g_iload B dX6_digest_107 3 rfl ?_
  refine g_callP (g_runV (q0 := 0) (ci := 6) B hK rfl rfl (PM.met (r_ofEdgeNow_2 l (D := D) (cI := cI) (cL := cL) (cZ := cZ) hm m1 m2 m3 m4 m5 m7 m9 m10 m11 m12 m13 m15 m16 m17 (0 : Int32) (1 : Int32) (0 : Int32) (7 : Int32) )) (gPp.pre (av := [.ref hm, .int (7 : Int32), .int (2 : Int32)]) (wc := [(hm, .inr (6, [.int (0 : Int32), .ref m1, .ref m2, .ref m3, .ref m4, .ref m5, .int (1 : Int32), .ref m7, .int (0 : Int32), .ref m9, .ref m10, .ref m11, .ref m12, .ref m13, .int (0 : Int32), .ref m15, .ref m16, .ref m17]))]) hK hN [0] rfl (by decide)) gX6_digest_X6_ofEdgeNow rfl rfl kd_X6_ofEdgeNow ⟨by decide, by decide⟩ (st := [.long (-8723042075890686707 : Int64)]) rfl (Nat.le_of_ble_eq_true rfl) dX6_digest_109 ⟨by decide, by decide⟩) (fun u hu => ?_)
  refine g_i2l (v := (-1 : Int64)) B dX6_digest_112 (by decide) ?_
  refine g_ladd (v := (-8723042075890686708 : Int64)) B dX6_digest_113 (by decide) ?_
  refine g_lstore_n (lv' := [(0, .ref hm), (1, .long (-8723042075890686708 : Int64)), (3, .int (7 : Int32)), (4, .int (2 : Int32))]) B dX6_digest_114 rfl (by decide) [1, 0, 2, 3] rfl ?_
  refine g_iinc (lv' := [(0, .ref hm), (1, .long (-8723042075890686708 : Int64)), (3, .int (7 : Int32)), (4, .int (3 : Int32))]) B dX6_digest_115 3 rfl (by decide) (by decide) [1, 2, 3, 0] rfl ?_
  refine g_goto (tgt := 94) B dX6_digest_118 (by decide) ?_
  refine g_iload B dX6_digest_94 3 rfl ?_
  refine g_iconst (v := (3 : Int32)) B dX6_digest_96 (by decide) ?_
  refine g_icmp_ge (tgt := 121) B dX6_digest_97 (by decide) (fun _ => ?_) (fun c82 => absurd (by decide) c82)
  refine g_iinc (lv' := [(0, .ref hm), (1, .long (-8723042075890686708 : Int64)), (3, .int (8 : Int32)), (4, .int (3 : Int32))]) B dX6_digest_121 2 rfl (by decide) (by decide) [1, 2, 0, 3] rfl ?_
  refine g_goto (tgt := 85) B dX6_digest_124 (by decide) ?_
  refine g_iload_n B dX6_digest_85 2 rfl ?_
  refine g_bipush (v := (24 : Int32)) B dX6_digest_86 (by decide) ?_
  refine g_icmp_ge (tgt := 127) B dX6_digest_88 (by decide) (fun c83 => absurd c83 (by decide)) (fun _ => ?_)
  refine g_iconst (v := (0 : Int32)) B dX6_digest_91 (by decide) ?_
  refine g_istore (lv' := [(0, .ref hm), (1, .long (-8723042075890686708 : Int64)), (3, .int (8 : Int32)), (4, .int (0 : Int32))]) B dX6_digest_92 (by decide) [1, 2, 3, 0] rfl ?_
  refine g_iload B dX6_digest_94 3 rfl ?_
  refine g_iconst (v := (3 : Int32)) B dX6_digest_96 (by decide) ?_
  refine g_icmp_ge (tgt := 121) B dX6_digest_97 (by decide) (fun c84 => absurd c84 (by decide)) (fun _ => ?_)
  refine g_lload_n B dX6_digest_100 1 rfl ?_
  refine g_ldc2 (v := (31 : Int64)) B dX6_digest_101 (List.mem_of_getElem? (i := 3) rfl) ?_
  refine g_lmul (v := (6286856753031986292 : Int64)) B dX6_digest_104 (by decide) ?_
  refine g_aload_n B dX6_digest_105 0 rfl ?_
  refine g_iload_n B dX6_digest_106 2 rfl ?_
  refine g_iload B dX6_digest_107 3 rfl ?_
  refine g_callP (g_runV (q0 := 0) (ci := 6) B hK rfl rfl (PM.met (r_ofEdgeNow_n l (D := D) (cI := cI) (cL := cL) (cZ := cZ) hm m1 m2 m3 m4 m5 m7 m9 m10 m11 m12 m13 m15 m16 m17 (0 : Int32) (1 : Int32) (0 : Int32) (8 : Int32) (0 : Int32) (by first | assumption | decide))) (gPp.pre (av := [.ref hm, .int (8 : Int32), .int (0 : Int32)]) (wc := [(hm, .inr (6, [.int (0 : Int32), .ref m1, .ref m2, .ref m3, .ref m4, .ref m5, .int (1 : Int32), .ref m7, .int (0 : Int32), .ref m9, .ref m10, .ref m11, .ref m12, .ref m13, .int (0 : Int32), .ref m15, .ref m16, .ref m17]))]) hK hN [0] rfl (by decide)) gX6_digest_X6_ofEdgeNow rfl rfl kd_X6_ofEdgeNow ⟨by decide, by decide⟩ (st := [.long (6286856753031986292 : Int64)]) rfl (Nat.le_of_ble_eq_true rfl) dX6_digest_109 ⟨by decide, by decide⟩) (fun u hu => ?_)
  refine g_i2l (v := (0 : Int64)) B dX6_digest_112 (by decide) ?_
  refine g_ladd (v := (6286856753031986292 : Int64)) B dX6_digest_113 (by decide) ?_
  refine g_lstore_n (lv' := [(0, .ref hm), (1, .long (6286856753031986292 : Int64)), (3, .int (8 : Int32)), (4, .int (0 : Int32))]) B dX6_digest_114 rfl (by decide) [1, 0, 2, 3] rfl ?_
  refine g_iinc (lv' := [(0, .ref hm), (1, .long (6286856753031986292 : Int64)), (3, .int (8 : Int32)), (4, .int (1 : Int32))]) B dX6_digest_115 3 rfl (by decide) (by decide) [1, 2, 3, 0] rfl ?_
  refine g_goto (tgt := 94) B dX6_digest_118 (by decide) ?_
  refine g_iload B dX6_digest_94 3 rfl ?_
  refine g_iconst (v := (3 : Int32)) B dX6_digest_96 (by decide) ?_
  refine g_icmp_ge (tgt := 121) B dX6_digest_97 (by decide) (fun c86 => absurd c86 (by decide)) (fun _ => ?_)
  refine g_lload_n B dX6_digest_100 1 rfl ?_
  refine g_ldc2 (v := (31 : Int64)) B dX6_digest_101 (List.mem_of_getElem? (i := 3) rfl) ?_
  refine g_lmul (v := (-8021625466813492724 : Int64)) B dX6_digest_104 (by decide) ?_
  refine g_aload_n B dX6_digest_105 0 rfl ?_
  refine g_iload_n B dX6_digest_106 2 rfl ?_
  refine g_iload B dX6_digest_107 3 rfl ?_
  refine g_callP (g_runV (q0 := 0) (ci := 6) B hK rfl rfl (PM.met (r_ofEdgeNow_n l (D := D) (cI := cI) (cL := cL) (cZ := cZ) hm m1 m2 m3 m4 m5 m7 m9 m10 m11 m12 m13 m15 m16 m17 (0 : Int32) (1 : Int32) (0 : Int32) (8 : Int32) (1 : Int32) (by first | assumption | decide))) (gPp.pre (av := [.ref hm, .int (8 : Int32), .int (1 : Int32)]) (wc := [(hm, .inr (6, [.int (0 : Int32), .ref m1, .ref m2, .ref m3, .ref m4, .ref m5, .int (1 : Int32), .ref m7, .int (0 : Int32), .ref m9, .ref m10, .ref m11, .ref m12, .ref m13, .int (0 : Int32), .ref m15, .ref m16, .ref m17]))]) hK hN [0] rfl (by decide)) gX6_digest_X6_ofEdgeNow rfl rfl kd_X6_ofEdgeNow ⟨by decide, by decide⟩ (st := [.long (-8021625466813492724 : Int64)]) rfl (Nat.le_of_ble_eq_true rfl) dX6_digest_109 ⟨by decide, by decide⟩) (fun u hu => ?_)
  refine g_i2l (v := (0 : Int64)) B dX6_digest_112 (by decide) ?_
  refine g_ladd (v := (-8021625466813492724 : Int64)) B dX6_digest_113 (by decide) ?_
  refine g_lstore_n (lv' := [(0, .ref hm), (1, .long (-8021625466813492724 : Int64)), (3, .int (8 : Int32)), (4, .int (1 : Int32))]) B dX6_digest_114 rfl (by decide) [1, 0, 2, 3] rfl ?_
  refine g_iinc (lv' := [(0, .ref hm), (1, .long (-8021625466813492724 : Int64)), (3, .int (8 : Int32)), (4, .int (2 : Int32))]) B dX6_digest_115 3 rfl (by decide) (by decide) [1, 2, 3, 0] rfl ?_
  refine g_goto (tgt := 94) B dX6_digest_118 (by decide) ?_
  refine g_iload B dX6_digest_94 3 rfl ?_
  refine g_iconst (v := (3 : Int32)) B dX6_digest_96 (by decide) ?_
  refine g_icmp_ge (tgt := 121) B dX6_digest_97 (by decide) (fun c88 => absurd c88 (by decide)) (fun _ => ?_)
  refine g_lload_n B dX6_digest_100 1 rfl ?_
  refine g_ldc2 (v := (31 : Int64)) B dX6_digest_101 (List.mem_of_getElem? (i := 3) rfl) ?_
  refine g_lmul (v := (-8862716512994103436 : Int64)) B dX6_digest_104 (by decide) ?_
  refine g_aload_n B dX6_digest_105 0 rfl ?_
  refine g_iload_n B dX6_digest_106 2 rfl ?_
  refine g_iload B dX6_digest_107 3 rfl ?_
  refine g_callP (g_runV (q0 := 0) (ci := 6) B hK rfl rfl (PM.met (r_ofEdgeNow_2 l (D := D) (cI := cI) (cL := cL) (cZ := cZ) hm m1 m2 m3 m4 m5 m7 m9 m10 m11 m12 m13 m15 m16 m17 (0 : Int32) (1 : Int32) (0 : Int32) (8 : Int32) )) (gPp.pre (av := [.ref hm, .int (8 : Int32), .int (2 : Int32)]) (wc := [(hm, .inr (6, [.int (0 : Int32), .ref m1, .ref m2, .ref m3, .ref m4, .ref m5, .int (1 : Int32), .ref m7, .int (0 : Int32), .ref m9, .ref m10, .ref m11, .ref m12, .ref m13, .int (0 : Int32), .ref m15, .ref m16, .ref m17]))]) hK hN [0] rfl (by decide)) gX6_digest_X6_ofEdgeNow rfl rfl kd_X6_ofEdgeNow ⟨by decide, by decide⟩ (st := [.long (-8862716512994103436 : Int64)]) rfl (Nat.le_of_ble_eq_true rfl) dX6_digest_109 ⟨by decide, by decide⟩) (fun u hu => ?_)
  refine g_i2l (v := (-1 : Int64)) B dX6_digest_112 (by decide) ?_
  refine g_ladd (v := (-8862716512994103437 : Int64)) B dX6_digest_113 (by decide) ?_
  refine g_lstore_n (lv' := [(0, .ref hm), (1, .long (-8862716512994103437 : Int64)), (3, .int (8 : Int32)), (4, .int (2 : Int32))]) B dX6_digest_114 rfl (by decide) [1, 0, 2, 3] rfl ?_
  refine g_iinc (lv' := [(0, .ref hm), (1, .long (-8862716512994103437 : Int64)), (3, .int (8 : Int32)), (4, .int (3 : Int32))]) B dX6_digest_115 3 rfl (by decide) (by decide) [1, 2, 3, 0] rfl ?_
  refine g_goto (tgt := 94) B dX6_digest_118 (by decide) ?_
  refine g_iload B dX6_digest_94 3 rfl ?_
  refine g_iconst (v := (3 : Int32)) B dX6_digest_96 (by decide) ?_
  refine g_icmp_ge (tgt := 121) B dX6_digest_97 (by decide) (fun _ => ?_) (fun c90 => absurd (by decide) c90)
  refine g_iinc (lv' := [(0, .ref hm), (1, .long (-8862716512994103437 : Int64)), (3, .int (9 : Int32)), (4, .int (3 : Int32))]) B dX6_digest_121 2 rfl (by decide) (by decide) [1, 2, 0, 3] rfl ?_
  refine g_goto (tgt := 85) B dX6_digest_124 (by decide) ?_
  refine g_iload_n B dX6_digest_85 2 rfl ?_
  refine g_bipush (v := (24 : Int32)) B dX6_digest_86 (by decide) ?_
  refine g_icmp_ge (tgt := 127) B dX6_digest_88 (by decide) (fun c91 => absurd c91 (by decide)) (fun _ => ?_)
  refine g_iconst (v := (0 : Int32)) B dX6_digest_91 (by decide) ?_
  refine g_istore (lv' := [(0, .ref hm), (1, .long (-8862716512994103437 : Int64)), (3, .int (9 : Int32)), (4, .int (0 : Int32))]) B dX6_digest_92 (by decide) [1, 2, 3, 0] rfl ?_
  refine g_iload B dX6_digest_94 3 rfl ?_
  refine g_iconst (v := (3 : Int32)) B dX6_digest_96 (by decide) ?_
  refine g_icmp_ge (tgt := 121) B dX6_digest_97 (by decide) (fun c92 => absurd c92 (by decide)) (fun _ => ?_)
  refine g_lload_n B dX6_digest_100 1 rfl ?_
  refine g_ldc2 (v := (31 : Int64)) B dX6_digest_101 (List.mem_of_getElem? (i := 3) rfl) ?_
  refine g_lmul (v := (1956949202826067693 : Int64)) B dX6_digest_104 (by decide) ?_
  refine g_aload_n B dX6_digest_105 0 rfl ?_
  refine g_iload_n B dX6_digest_106 2 rfl ?_
  refine g_iload B dX6_digest_107 3 rfl ?_
  refine g_callP (g_runV (q0 := 0) (ci := 6) B hK rfl rfl (PM.met (r_ofEdgeNow_n l (D := D) (cI := cI) (cL := cL) (cZ := cZ) hm m1 m2 m3 m4 m5 m7 m9 m10 m11 m12 m13 m15 m16 m17 (0 : Int32) (1 : Int32) (0 : Int32) (9 : Int32) (0 : Int32) (by first | assumption | decide))) (gPp.pre (av := [.ref hm, .int (9 : Int32), .int (0 : Int32)]) (wc := [(hm, .inr (6, [.int (0 : Int32), .ref m1, .ref m2, .ref m3, .ref m4, .ref m5, .int (1 : Int32), .ref m7, .int (0 : Int32), .ref m9, .ref m10, .ref m11, .ref m12, .ref m13, .int (0 : Int32), .ref m15, .ref m16, .ref m17]))]) hK hN [0] rfl (by decide)) gX6_digest_X6_ofEdgeNow rfl rfl kd_X6_ofEdgeNow ⟨by decide, by decide⟩ (st := [.long (1956949202826067693 : Int64)]) rfl (Nat.le_of_ble_eq_true rfl) dX6_digest_109 ⟨by decide, by decide⟩) (fun u hu => ?_)
  refine g_i2l (v := (0 : Int64)) B dX6_digest_112 (by decide) ?_
  refine g_ladd (v := (1956949202826067693 : Int64)) B dX6_digest_113 (by decide) ?_
  refine g_lstore_n (lv' := [(0, .ref hm), (1, .long (1956949202826067693 : Int64)), (3, .int (9 : Int32)), (4, .int (0 : Int32))]) B dX6_digest_114 rfl (by decide) [1, 0, 2, 3] rfl ?_
  refine g_iinc (lv' := [(0, .ref hm), (1, .long (1956949202826067693 : Int64)), (3, .int (9 : Int32)), (4, .int (1 : Int32))]) B dX6_digest_115 3 rfl (by decide) (by decide) [1, 2, 3, 0] rfl ?_
  refine g_goto (tgt := 94) B dX6_digest_118 (by decide) ?_
  refine g_iload B dX6_digest_94 3 rfl ?_
  refine g_iconst (v := (3 : Int32)) B dX6_digest_96 (by decide) ?_
  refine g_icmp_ge (tgt := 121) B dX6_digest_97 (by decide) (fun c94 => absurd c94 (by decide)) (fun _ => ?_)
  refine g_lload_n B dX6_digest_100 1 rfl ?_
  refine g_ldc2 (v := (31 : Int64)) B dX6_digest_101 (List.mem_of_getElem? (i := 3) rfl) ?_
  refine g_lmul (v := (5325193066479443635 : Int64)) B dX6_digest_104 (by decide) ?_
  refine g_aload_n B dX6_digest_105 0 rfl ?_
  refine g_iload_n B dX6_digest_106 2 rfl ?_
  refine g_iload B dX6_digest_107 3 rfl ?_
  refine g_callP (g_runV (q0 := 0) (ci := 6) B hK rfl rfl (PM.met (r_ofEdgeNow_n l (D := D) (cI := cI) (cL := cL) (cZ := cZ) hm m1 m2 m3 m4 m5 m7 m9 m10 m11 m12 m13 m15 m16 m17 (0 : Int32) (1 : Int32) (0 : Int32) (9 : Int32) (1 : Int32) (by first | assumption | decide))) (gPp.pre (av := [.ref hm, .int (9 : Int32), .int (1 : Int32)]) (wc := [(hm, .inr (6, [.int (0 : Int32), .ref m1, .ref m2, .ref m3, .ref m4, .ref m5, .int (1 : Int32), .ref m7, .int (0 : Int32), .ref m9, .ref m10, .ref m11, .ref m12, .ref m13, .int (0 : Int32), .ref m15, .ref m16, .ref m17]))]) hK hN [0] rfl (by decide)) gX6_digest_X6_ofEdgeNow rfl rfl kd_X6_ofEdgeNow ⟨by decide, by decide⟩ (st := [.long (5325193066479443635 : Int64)]) rfl (Nat.le_of_ble_eq_true rfl) dX6_digest_109 ⟨by decide, by decide⟩) (fun u hu => ?_)
  refine g_i2l (v := (0 : Int64)) B dX6_digest_112 (by decide) ?_
  refine g_ladd (v := (5325193066479443635 : Int64)) B dX6_digest_113 (by decide) ?_
  refine g_lstore_n (lv' := [(0, .ref hm), (1, .long (5325193066479443635 : Int64)), (3, .int (9 : Int32)), (4, .int (1 : Int32))]) B dX6_digest_114 rfl (by decide) [1, 0, 2, 3] rfl ?_
  refine g_iinc (lv' := [(0, .ref hm), (1, .long (5325193066479443635 : Int64)), (3, .int (9 : Int32)), (4, .int (2 : Int32))]) B dX6_digest_115 3 rfl (by decide) (by decide) [1, 2, 3, 0] rfl ?_
  refine g_goto (tgt := 94) B dX6_digest_118 (by decide) ?_
  refine g_iload B dX6_digest_94 3 rfl ?_
  refine g_iconst (v := (3 : Int32)) B dX6_digest_96 (by decide) ?_
  refine g_icmp_ge (tgt := 121) B dX6_digest_97 (by decide) (fun c96 => absurd c96 (by decide)) (fun _ => ?_)
  refine g_lload_n B dX6_digest_100 1 rfl ?_
  refine g_ldc2 (v := (31 : Int64)) B dX6_digest_101 (List.mem_of_getElem? (i := 3) rfl) ?_
  refine g_lmul (v := (-939711602523211859 : Int64)) B dX6_digest_104 (by decide) ?_
  refine g_aload_n B dX6_digest_105 0 rfl ?_
  refine g_iload_n B dX6_digest_106 2 rfl ?_
  refine g_iload B dX6_digest_107 3 rfl ?_
  refine g_callP (g_runV (q0 := 0) (ci := 6) B hK rfl rfl (PM.met (r_ofEdgeNow_2 l (D := D) (cI := cI) (cL := cL) (cZ := cZ) hm m1 m2 m3 m4 m5 m7 m9 m10 m11 m12 m13 m15 m16 m17 (0 : Int32) (1 : Int32) (0 : Int32) (9 : Int32) )) (gPp.pre (av := [.ref hm, .int (9 : Int32), .int (2 : Int32)]) (wc := [(hm, .inr (6, [.int (0 : Int32), .ref m1, .ref m2, .ref m3, .ref m4, .ref m5, .int (1 : Int32), .ref m7, .int (0 : Int32), .ref m9, .ref m10, .ref m11, .ref m12, .ref m13, .int (0 : Int32), .ref m15, .ref m16, .ref m17]))]) hK hN [0] rfl (by decide)) gX6_digest_X6_ofEdgeNow rfl rfl kd_X6_ofEdgeNow ⟨by decide, by decide⟩ (st := [.long (-939711602523211859 : Int64)]) rfl (Nat.le_of_ble_eq_true rfl) dX6_digest_109 ⟨by decide, by decide⟩) (fun u hu => ?_)
  refine g_i2l (v := (-1 : Int64)) B dX6_digest_112 (by decide) ?_
  refine g_ladd (v := (-939711602523211860 : Int64)) B dX6_digest_113 (by decide) ?_
  refine g_lstore_n (lv' := [(0, .ref hm), (1, .long (-939711602523211860 : Int64)), (3, .int (9 : Int32)), (4, .int (2 : Int32))]) B dX6_digest_114 rfl (by decide) [1, 0, 2, 3] rfl ?_
  refine g_iinc (lv' := [(0, .ref hm), (1, .long (-939711602523211860 : Int64)), (3, .int (9 : Int32)), (4, .int (3 : Int32))]) B dX6_digest_115 3 rfl (by decide) (by decide) [1, 2, 3, 0] rfl ?_
  refine g_goto (tgt := 94) B dX6_digest_118 (by decide) ?_
  refine g_iload B dX6_digest_94 3 rfl ?_
  refine g_iconst (v := (3 : Int32)) B dX6_digest_96 (by decide) ?_
  refine g_icmp_ge (tgt := 121) B dX6_digest_97 (by decide) (fun _ => ?_) (fun c98 => absurd (by decide) c98)
  refine g_iinc (lv' := [(0, .ref hm), (1, .long (-939711602523211860 : Int64)), (3, .int (10 : Int32)), (4, .int (3 : Int32))]) B dX6_digest_121 2 rfl (by decide) (by decide) [1, 2, 0, 3] rfl ?_
  refine g_goto (tgt := 85) B dX6_digest_124 (by decide) ?_
  refine g_iload_n B dX6_digest_85 2 rfl ?_
  refine g_bipush (v := (24 : Int32)) B dX6_digest_86 (by decide) ?_
  refine g_icmp_ge (tgt := 127) B dX6_digest_88 (by decide) (fun c99 => absurd c99 (by decide)) (fun _ => ?_)
  refine g_iconst (v := (0 : Int32)) B dX6_digest_91 (by decide) ?_
  refine g_istore (lv' := [(0, .ref hm), (1, .long (-939711602523211860 : Int64)), (3, .int (10 : Int32)), (4, .int (0 : Int32))]) B dX6_digest_92 (by decide) [1, 2, 3, 0] rfl ?_
  refine g_iload B dX6_digest_94 3 rfl ?_
  refine g_iconst (v := (3 : Int32)) B dX6_digest_96 (by decide) ?_
  refine g_icmp_ge (tgt := 121) B dX6_digest_97 (by decide) (fun c100 => absurd c100 (by decide)) (fun _ => ?_)
  refine g_lload_n B dX6_digest_100 1 rfl ?_
  refine g_ldc2 (v := (31 : Int64)) B dX6_digest_101 (List.mem_of_getElem? (i := 3) rfl) ?_
  refine g_lmul (v := (7762428469199535572 : Int64)) B dX6_digest_104 (by decide) ?_
  refine g_aload_n B dX6_digest_105 0 rfl ?_
  refine g_iload_n B dX6_digest_106 2 rfl ?_
  refine g_iload B dX6_digest_107 3 rfl ?_
  refine g_callP (g_runV (q0 := 0) (ci := 6) B hK rfl rfl (PM.met (r_ofEdgeNow_n l (D := D) (cI := cI) (cL := cL) (cZ := cZ) hm m1 m2 m3 m4 m5 m7 m9 m10 m11 m12 m13 m15 m16 m17 (0 : Int32) (1 : Int32) (0 : Int32) (10 : Int32) (0 : Int32) (by first | assumption | decide))) (gPp.pre (av := [.ref hm, .int (10 : Int32), .int (0 : Int32)]) (wc := [(hm, .inr (6, [.int (0 : Int32), .ref m1, .ref m2, .ref m3, .ref m4, .ref m5, .int (1 : Int32), .ref m7, .int (0 : Int32), .ref m9, .ref m10, .ref m11, .ref m12, .ref m13, .int (0 : Int32), .ref m15, .ref m16, .ref m17]))]) hK hN [0] rfl (by decide)) gX6_digest_X6_ofEdgeNow rfl rfl kd_X6_ofEdgeNow ⟨by decide, by decide⟩ (st := [.long (7762428469199535572 : Int64)]) rfl (Nat.le_of_ble_eq_true rfl) dX6_digest_109 ⟨by decide, by decide⟩) (fun u hu => ?_)
  refine g_i2l (v := (0 : Int64)) B dX6_digest_112 (by decide) ?_
  refine g_ladd (v := (7762428469199535572 : Int64)) B dX6_digest_113 (by decide) ?_
  refine g_lstore_n (lv' := [(0, .ref hm), (1, .long (7762428469199535572 : Int64)), (3, .int (10 : Int32)), (4, .int (0 : Int32))]) B dX6_digest_114 rfl (by decide) [1, 0, 2, 3] rfl ?_
  refine g_iinc (lv' := [(0, .ref hm), (1, .long (7762428469199535572 : Int64)), (3, .int (10 : Int32)), (4, .int (1 : Int32))]) B dX6_digest_115 3 rfl (by decide) (by decide) [1, 2, 3, 0] rfl ?_
  refine g_goto (tgt := 94) B dX6_digest_118 (by decide) ?_
  refine g_iload B dX6_digest_94 3 rfl ?_
  refine g_iconst (v := (3 : Int32)) B dX6_digest_96 (by decide) ?_
  refine g_icmp_ge (tgt := 121) B dX6_digest_97 (by decide) (fun c102 => absurd c102 (by decide)) (fun _ => ?_)
  refine g_lload_n B dX6_digest_100 1 rfl ?_
  refine g_ldc2 (v := (31 : Int64)) B dX6_digest_101 (List.mem_of_getElem? (i := 3) rfl) ?_
  refine g_lmul (v := (827609586961431724 : Int64)) B dX6_digest_104 (by decide) ?_
  refine g_aload_n B dX6_digest_105 0 rfl ?_
  refine g_iload_n B dX6_digest_106 2 rfl ?_
  refine g_iload B dX6_digest_107 3 rfl ?_
  refine g_callP (g_runV (q0 := 0) (ci := 6) B hK rfl rfl (PM.met (r_ofEdgeNow_n l (D := D) (cI := cI) (cL := cL) (cZ := cZ) hm m1 m2 m3 m4 m5 m7 m9 m10 m11 m12 m13 m15 m16 m17 (0 : Int32) (1 : Int32) (0 : Int32) (10 : Int32) (1 : Int32) (by first | assumption | decide))) (gPp.pre (av := [.ref hm, .int (10 : Int32), .int (1 : Int32)]) (wc := [(hm, .inr (6, [.int (0 : Int32), .ref m1, .ref m2, .ref m3, .ref m4, .ref m5, .int (1 : Int32), .ref m7, .int (0 : Int32), .ref m9, .ref m10, .ref m11, .ref m12, .ref m13, .int (0 : Int32), .ref m15, .ref m16, .ref m17]))]) hK hN [0] rfl (by decide)) gX6_digest_X6_ofEdgeNow rfl rfl kd_X6_ofEdgeNow ⟨by decide, by decide⟩ (st := [.long (827609586961431724 : Int64)]) rfl (Nat.le_of_ble_eq_true rfl) dX6_digest_109 ⟨by decide, by decide⟩) (fun u hu => ?_)
  refine g_i2l (v := (0 : Int64)) B dX6_digest_112 (by decide) ?_
  refine g_ladd (v := (827609586961431724 : Int64)) B dX6_digest_113 (by decide) ?_
  refine g_lstore_n (lv' := [(0, .ref hm), (1, .long (827609586961431724 : Int64)), (3, .int (10 : Int32)), (4, .int (1 : Int32))]) B dX6_digest_114 rfl (by decide) [1, 0, 2, 3] rfl ?_
  refine g_iinc (lv' := [(0, .ref hm), (1, .long (827609586961431724 : Int64)), (3, .int (10 : Int32)), (4, .int (2 : Int32))]) B dX6_digest_115 3 rfl (by decide) (by decide) [1, 2, 3, 0] rfl ?_
  refine g_goto (tgt := 94) B dX6_digest_118 (by decide) ?_
  refine g_iload B dX6_digest_94 3 rfl ?_
  refine g_iconst (v := (3 : Int32)) B dX6_digest_96 (by decide) ?_
  refine g_icmp_ge (tgt := 121) B dX6_digest_97 (by decide) (fun c104 => absurd c104 (by decide)) (fun _ => ?_)
  refine g_lload_n B dX6_digest_100 1 rfl ?_
  refine g_ldc2 (v := (31 : Int64)) B dX6_digest_101 (List.mem_of_getElem? (i := 3) rfl) ?_
  refine g_lmul (v := (7209153122094831828 : Int64)) B dX6_digest_104 (by decide) ?_
  refine g_aload_n B dX6_digest_105 0 rfl ?_
  refine g_iload_n B dX6_digest_106 2 rfl ?_
  refine g_iload B dX6_digest_107 3 rfl ?_
  refine g_callP (g_runV (q0 := 0) (ci := 6) B hK rfl rfl (PM.met (r_ofEdgeNow_2 l (D := D) (cI := cI) (cL := cL) (cZ := cZ) hm m1 m2 m3 m4 m5 m7 m9 m10 m11 m12 m13 m15 m16 m17 (0 : Int32) (1 : Int32) (0 : Int32) (10 : Int32) )) (gPp.pre (av := [.ref hm, .int (10 : Int32), .int (2 : Int32)]) (wc := [(hm, .inr (6, [.int (0 : Int32), .ref m1, .ref m2, .ref m3, .ref m4, .ref m5, .int (1 : Int32), .ref m7, .int (0 : Int32), .ref m9, .ref m10, .ref m11, .ref m12, .ref m13, .int (0 : Int32), .ref m15, .ref m16, .ref m17]))]) hK hN [0] rfl (by decide)) gX6_digest_X6_ofEdgeNow rfl rfl kd_X6_ofEdgeNow ⟨by decide, by decide⟩ (st := [.long (7209153122094831828 : Int64)]) rfl (Nat.le_of_ble_eq_true rfl) dX6_digest_109 ⟨by decide, by decide⟩) (fun u hu => ?_)
  refine g_i2l (v := (-1 : Int64)) B dX6_digest_112 (by decide) ?_
  refine g_ladd (v := (7209153122094831827 : Int64)) B dX6_digest_113 (by decide) ?_
  refine g_lstore_n (lv' := [(0, .ref hm), (1, .long (7209153122094831827 : Int64)), (3, .int (10 : Int32)), (4, .int (2 : Int32))]) B dX6_digest_114 rfl (by decide) [1, 0, 2, 3] rfl ?_
  refine g_iinc (lv' := [(0, .ref hm), (1, .long (7209153122094831827 : Int64)), (3, .int (10 : Int32)), (4, .int (3 : Int32))]) B dX6_digest_115 3 rfl (by decide) (by decide) [1, 2, 3, 0] rfl ?_
  refine g_goto (tgt := 94) B dX6_digest_118 (by decide) ?_
  refine g_iload B dX6_digest_94 3 rfl ?_
  refine g_iconst (v := (3 : Int32)) B dX6_digest_96 (by decide) ?_
  refine g_icmp_ge (tgt := 121) B dX6_digest_97 (by decide) (fun _ => ?_) (fun c106 => absurd (by decide) c106)
  refine g_iinc (lv' := [(0, .ref hm), (1, .long (7209153122094831827 : Int64)), (3, .int (11 : Int32)), (4, .int (3 : Int32))]) B dX6_digest_121 2 rfl (by decide) (by decide) [1, 2, 0, 3] rfl ?_
  refine g_goto (tgt := 85) B dX6_digest_124 (by decide) ?_
  refine g_iload_n B dX6_digest_85 2 rfl ?_
  refine g_bipush (v := (24 : Int32)) B dX6_digest_86 (by decide) ?_
  refine g_icmp_ge (tgt := 127) B dX6_digest_88 (by decide) (fun c107 => absurd c107 (by decide)) (fun _ => ?_)
  refine g_iconst (v := (0 : Int32)) B dX6_digest_91 (by decide) ?_
  refine g_istore (lv' := [(0, .ref hm), (1, .long (7209153122094831827 : Int64)), (3, .int (11 : Int32)), (4, .int (0 : Int32))]) B dX6_digest_92 (by decide) [1, 2, 3, 0] rfl ?_
  refine g_iload B dX6_digest_94 3 rfl ?_
  refine g_iconst (v := (3 : Int32)) B dX6_digest_96 (by decide) ?_
  refine g_icmp_ge (tgt := 121) B dX6_digest_97 (by decide) (fun c108 => absurd c108 (by decide)) (fun _ => ?_)
  refine g_lload_n B dX6_digest_100 1 rfl ?_
  refine g_ldc2 (v := (31 : Int64)) B dX6_digest_101 (List.mem_of_getElem? (i := 3) rfl) ?_
  refine g_lmul (v := (2122817900425167245 : Int64)) B dX6_digest_104 (by decide) ?_
  refine g_aload_n B dX6_digest_105 0 rfl ?_
  refine g_iload_n B dX6_digest_106 2 rfl ?_
  refine g_iload B dX6_digest_107 3 rfl ?_
  refine g_callP (g_runV (q0 := 0) (ci := 6) B hK rfl rfl (PM.met (r_ofEdgeNow_n l (D := D) (cI := cI) (cL := cL) (cZ := cZ) hm m1 m2 m3 m4 m5 m7 m9 m10 m11 m12 m13 m15 m16 m17 (0 : Int32) (1 : Int32) (0 : Int32) (11 : Int32) (0 : Int32) (by first | assumption | decide))) (gPp.pre (av := [.ref hm, .int (11 : Int32), .int (0 : Int32)]) (wc := [(hm, .inr (6, [.int (0 : Int32), .ref m1, .ref m2, .ref m3, .ref m4, .ref m5, .int (1 : Int32), .ref m7, .int (0 : Int32), .ref m9, .ref m10, .ref m11, .ref m12, .ref m13, .int (0 : Int32), .ref m15, .ref m16, .ref m17]))]) hK hN [0] rfl (by decide)) gX6_digest_X6_ofEdgeNow rfl rfl kd_X6_ofEdgeNow ⟨by decide, by decide⟩ (st := [.long (2122817900425167245 : Int64)]) rfl (Nat.le_of_ble_eq_true rfl) dX6_digest_109 ⟨by decide, by decide⟩) (fun u hu => ?_)
  refine g_i2l (v := (0 : Int64)) B dX6_digest_112 (by decide) ?_
  refine g_ladd (v := (2122817900425167245 : Int64)) B dX6_digest_113 (by decide) ?_
  refine g_lstore_n (lv' := [(0, .ref hm), (1, .long (2122817900425167245 : Int64)), (3, .int (11 : Int32)), (4, .int (0 : Int32))]) B dX6_digest_114 rfl (by decide) [1, 0, 2, 3] rfl ?_
  refine g_iinc (lv' := [(0, .ref hm), (1, .long (2122817900425167245 : Int64)), (3, .int (11 : Int32)), (4, .int (1 : Int32))]) B dX6_digest_115 3 rfl (by decide) (by decide) [1, 2, 3, 0] rfl ?_
  refine g_goto (tgt := 94) B dX6_digest_118 (by decide) ?_
  refine g_iload B dX6_digest_94 3 rfl ?_
  refine g_iconst (v := (3 : Int32)) B dX6_digest_96 (by decide) ?_
  refine g_icmp_ge (tgt := 121) B dX6_digest_97 (by decide) (fun c110 => absurd c110 (by decide)) (fun _ => ?_)
  refine g_lload_n B dX6_digest_100 1 rfl ?_
  refine g_ldc2 (v := (31 : Int64)) B dX6_digest_101 (List.mem_of_getElem? (i := 3) rfl) ?_
  refine g_lmul (v := (-7979621381658021869 : Int64)) B dX6_digest_104 (by decide) ?_
  refine g_aload_n B dX6_digest_105 0 rfl ?_
  refine g_iload_n B dX6_digest_106 2 rfl ?_
  refine g_iload B dX6_digest_107 3 rfl ?_
  refine g_callP (g_runV (q0 := 0) (ci := 6) B hK rfl rfl (PM.met (r_ofEdgeNow_n l (D := D) (cI := cI) (cL := cL) (cZ := cZ) hm m1 m2 m3 m4 m5 m7 m9 m10 m11 m12 m13 m15 m16 m17 (0 : Int32) (1 : Int32) (0 : Int32) (11 : Int32) (1 : Int32) (by first | assumption | decide))) (gPp.pre (av := [.ref hm, .int (11 : Int32), .int (1 : Int32)]) (wc := [(hm, .inr (6, [.int (0 : Int32), .ref m1, .ref m2, .ref m3, .ref m4, .ref m5, .int (1 : Int32), .ref m7, .int (0 : Int32), .ref m9, .ref m10, .ref m11, .ref m12, .ref m13, .int (0 : Int32), .ref m15, .ref m16, .ref m17]))]) hK hN [0] rfl (by decide)) gX6_digest_X6_ofEdgeNow rfl rfl kd_X6_ofEdgeNow ⟨by decide, by decide⟩ (st := [.long (-7979621381658021869 : Int64)]) rfl (Nat.le_of_ble_eq_true rfl) dX6_digest_109 ⟨by decide, by decide⟩) (fun u hu => ?_)
  refine g_i2l (v := (0 : Int64)) B dX6_digest_112 (by decide) ?_
  refine g_ladd (v := (-7979621381658021869 : Int64)) B dX6_digest_113 (by decide) ?_
  refine g_lstore_n (lv' := [(0, .ref hm), (1, .long (-7979621381658021869 : Int64)), (3, .int (11 : Int32)), (4, .int (1 : Int32))]) B dX6_digest_114 rfl (by decide) [1, 0, 2, 3] rfl ?_
  refine g_iinc (lv' := [(0, .ref hm), (1, .long (-7979621381658021869 : Int64)), (3, .int (11 : Int32)), (4, .int (2 : Int32))]) B dX6_digest_115 3 rfl (by decide) (by decide) [1, 2, 3, 0] rfl ?_
  refine g_goto (tgt := 94) B dX6_digest_118 (by decide) ?_
  refine g_iload B dX6_digest_94 3 rfl ?_
  refine g_iconst (v := (3 : Int32)) B dX6_digest_96 (by decide) ?_
  refine g_icmp_ge (tgt := 121) B dX6_digest_97 (by decide) (fun c112 => absurd c112 (by decide)) (fun _ => ?_)
  refine g_lload_n B dX6_digest_100 1 rfl ?_
  refine g_ldc2 (v := (31 : Int64)) B dX6_digest_101 (List.mem_of_getElem? (i := 3) rfl) ?_
  refine g_lmul (v := (-7560589873174506931 : Int64)) B dX6_digest_104 (by decide) ?_
  refine g_aload_n B dX6_digest_105 0 rfl ?_
  refine g_iload_n B dX6_digest_106 2 rfl ?_
  refine g_iload B dX6_digest_107 3 rfl ?_
  refine g_callP (g_runV (q0 := 0) (ci := 6) B hK rfl rfl (PM.met (r_ofEdgeNow_2 l (D := D) (cI := cI) (cL := cL) (cZ := cZ) hm m1 m2 m3 m4 m5 m7 m9 m10 m11 m12 m13 m15 m16 m17 (0 : Int32) (1 : Int32) (0 : Int32) (11 : Int32) )) (gPp.pre (av := [.ref hm, .int (11 : Int32), .int (2 : Int32)]) (wc := [(hm, .inr (6, [.int (0 : Int32), .ref m1, .ref m2, .ref m3, .ref m4, .ref m5, .int (1 : Int32), .ref m7, .int (0 : Int32), .ref m9, .ref m10, .ref m11, .ref m12, .ref m13, .int (0 : Int32), .ref m15, .ref m16, .ref m17]))]) hK hN [0] rfl (by decide)) gX6_digest_X6_ofEdgeNow rfl rfl kd_X6_ofEdgeNow ⟨by decide, by decide⟩ (st := [.long (-7560589873174506931 : Int64)]) rfl (Nat.le_of_ble_eq_true rfl) dX6_digest_109 ⟨by decide, by decide⟩) (fun u hu => ?_)
  refine g_i2l (v := (-1 : Int64)) B dX6_digest_112 (by decide) ?_
  refine g_ladd (v := (-7560589873174506932 : Int64)) B dX6_digest_113 (by decide) ?_
  refine g_lstore_n (lv' := [(0, .ref hm), (1, .long (-7560589873174506932 : Int64)), (3, .int (11 : Int32)), (4, .int (2 : Int32))]) B dX6_digest_114 rfl (by decide) [1, 0, 2, 3] rfl ?_
  refine g_iinc (lv' := [(0, .ref hm), (1, .long (-7560589873174506932 : Int64)), (3, .int (11 : Int32)), (4, .int (3 : Int32))]) B dX6_digest_115 3 rfl (by decide) (by decide) [1, 2, 3, 0] rfl ?_
  refine g_goto (tgt := 94) B dX6_digest_118 (by decide) ?_
  refine g_iload B dX6_digest_94 3 rfl ?_
  refine g_iconst (v := (3 : Int32)) B dX6_digest_96 (by decide) ?_
  refine g_icmp_ge (tgt := 121) B dX6_digest_97 (by decide) (fun _ => ?_) (fun c114 => absurd (by decide) c114)
  refine g_iinc (lv' := [(0, .ref hm), (1, .long (-7560589873174506932 : Int64)), (3, .int (12 : Int32)), (4, .int (3 : Int32))]) B dX6_digest_121 2 rfl (by decide) (by decide) [1, 2, 0, 3] rfl ?_
  refine g_goto (tgt := 85) B dX6_digest_124 (by decide) ?_
  refine g_iload_n B dX6_digest_85 2 rfl ?_
  refine g_bipush (v := (24 : Int32)) B dX6_digest_86 (by decide) ?_
  refine g_icmp_ge (tgt := 127) B dX6_digest_88 (by decide) (fun c115 => absurd c115 (by decide)) (fun _ => ?_)
  refine g_iconst (v := (0 : Int32)) B dX6_digest_91 (by decide) ?_
  refine g_istore (lv' := [(0, .ref hm), (1, .long (-7560589873174506932 : Int64)), (3, .int (12 : Int32)), (4, .int (0 : Int32))]) B dX6_digest_92 (by decide) [1, 2, 3, 0] rfl ?_
  refine g_iload B dX6_digest_94 3 rfl ?_
  refine g_iconst (v := (3 : Int32)) B dX6_digest_96 (by decide) ?_
  refine g_icmp_ge (tgt := 121) B dX6_digest_97 (by decide) (fun c116 => absurd c116 (by decide)) (fun _ => ?_)
  refine g_lload_n B dX6_digest_100 1 rfl ?_
  refine g_ldc2 (v := (31 : Int64)) B dX6_digest_101 (List.mem_of_getElem? (i := 3) rfl) ?_
  refine g_lmul (v := (5429386889814456116 : Int64)) B dX6_digest_104 (by decide) ?_
  refine g_aload_n B dX6_digest_105 0 rfl ?_
  refine g_iload_n B dX6_digest_106 2 rfl ?_
  refine g_iload B dX6_digest_107 3 rfl ?_
  refine g_callP (g_runV (q0 := 0) (ci := 6) B hK rfl rfl (PM.met (r_ofEdgeNow_n l (D := D) (cI := cI) (cL := cL) (cZ := cZ) hm m1 m2 m3 m4 m5 m7 m9 m10 m11 m12 m13 m15 m16 m17 (0 : Int32) (1 : Int32) (0 : Int32) (12 : Int32) (0 : Int32) (by first | assumption | decide))) (gPp.pre (av := [.ref hm, .int (12 : Int32), .int (0 : Int32)]) (wc := [(hm, .inr (6, [.int (0 : Int32), .ref m1, .ref m2, .ref m3, .ref m4, .ref m5, .int (1 : Int32), .ref m7, .int (0 : Int32), .ref m9, .ref m10, .ref m11, .ref m12, .ref m13, .int (0 : Int32), .ref m15, .ref m16, .ref m17]))]) hK hN [0] rfl (by decide)) gX6_digest_X6_ofEdgeNow rfl rfl kd_X6_ofEdgeNow ⟨by decide, by decide⟩ (st := [.long (5429386889814456116 : Int64)]) rfl (Nat.le_of_ble_eq_true rfl) dX6_digest_109 ⟨by decide, by decide⟩) (fun u hu => ?_)
  refine g_i2l (v := (0 : Int64)) B dX6_digest_112 (by decide) ?_
  refine g_ladd (v := (5429386889814456116 : Int64)) B dX6_digest_113 (by decide) ?_
  refine g_lstore_n (lv' := [(0, .ref hm), (1, .long (5429386889814456116 : Int64)), (3, .int (12 : Int32)), (4, .int (0 : Int32))]) B dX6_digest_114 rfl (by decide) [1, 0, 2, 3] rfl ?_
  refine g_iinc (lv' := [(0, .ref hm), (1, .long (5429386889814456116 : Int64)), (3, .int (12 : Int32)), (4, .int (1 : Int32))]) B dX6_digest_115 3 rfl (by decide) (by decide) [1, 2, 3, 0] rfl ?_
  refine g_goto (tgt := 94) B dX6_digest_118 (by decide) ?_
  refine g_iload B dX6_digest_94 3 rfl ?_
  refine g_iconst (v := (3 : Int32)) B dX6_digest_96 (by decide) ?_
  refine g_icmp_ge (tgt := 121) B dX6_digest_97 (by decide) (fun c118 => absurd c118 (by decide)) (fun _ => ?_)
  refine g_lload_n B dX6_digest_100 1 rfl ?_
  refine g_ldc2 (v := (31 : Int64)) B dX6_digest_101 (List.mem_of_getElem? (i := 3) rfl) ?_
  refine g_lmul (v := (2290296920862175052 : Int64)) B dX6_digest_104 (by decide) ?_
  refine g_aload_n B dX6_digest_105 0 rfl ?_
  refine g_iload_n B dX6_digest_106 2 rfl ?_
  refine g_iload B dX6_digest_107 3 rfl ?_
  refine g_callP (g_runV (q0 := 0) (ci := 6) B hK rfl rfl (PM.met (r_ofEdgeNow_n l (D := D) (cI := cI) (cL := cL) (cZ := cZ) hm m1 m2 m3 m4 m5 m7 m9 m10 m11 m12 m13 m15 m16 m17 (0 : Int32) (1 : Int32) (0 : Int32) (12 : Int32) (1 : Int32) (by first | assumption | decide))) (gPp.pre (av := [.ref hm, .int (12 : Int32), .int (1 : Int32)]) (wc := [(hm, .inr (6, [.int (0 : Int32), .ref m1, .ref m2, .ref m3, .ref m4, .ref m5, .int (1 : Int32), .ref m7, .int (0 : Int32), .ref m9, .ref m10, .ref m11, .ref m12, .ref m13, .int (0 : Int32), .ref m15, .ref m16, .ref m17]))]) hK hN [0] rfl (by decide)) gX6_digest_X6_ofEdgeNow rfl rfl kd_X6_ofEdgeNow ⟨by decide, by decide⟩ (st := [.long (2290296920862175052 : Int64)]) rfl (Nat.le_of_ble_eq_true rfl) dX6_digest_109 ⟨by decide, by decide⟩) (fun u hu => ?_)
  refine g_i2l (v := (0 : Int64)) B dX6_digest_112 (by decide) ?_
  refine g_ladd (v := (2290296920862175052 : Int64)) B dX6_digest_113 (by decide) ?_
  refine g_lstore_n (lv' := [(0, .ref hm), (1, .long (2290296920862175052 : Int64)), (3, .int (12 : Int32)), (4, .int (1 : Int32))]) B dX6_digest_114 rfl (by decide) [1, 0, 2, 3] rfl ?_
  refine g_iinc (lv' := [(0, .ref hm), (1, .long (2290296920862175052 : Int64)), (3, .int (12 : Int32)), (4, .int (2 : Int32))]) B dX6_digest_115 3 rfl (by decide) (by decide) [1, 2, 3, 0] rfl ?_
  refine g_goto (tgt := 94) B dX6_digest_118 (by decide) ?_
  refine g_iload B dX6_digest_94 3 rfl ?_
  refine g_iconst (v := (3 : Int32)) B dX6_digest_96 (by decide) ?_
  refine g_icmp_ge (tgt := 121) B dX6_digest_97 (by decide) (fun c120 => absurd c120 (by decide)) (fun _ => ?_)
  refine g_lload_n B dX6_digest_100 1 rfl ?_
  refine g_ldc2 (v := (31 : Int64)) B dX6_digest_101 (List.mem_of_getElem? (i := 3) rfl) ?_
  refine g_lmul (v := (-2787771748110779852 : Int64)) B dX6_digest_104 (by decide) ?_
  refine g_aload_n B dX6_digest_105 0 rfl ?_
  refine g_iload_n B dX6_digest_106 2 rfl ?_
  refine g_iload B dX6_digest_107 3 rfl ?_
  refine g_callP (g_runV (q0 := 0) (ci := 6) B hK rfl rfl (PM.met (r_ofEdgeNow_2 l (D := D) (cI := cI) (cL := cL) (cZ := cZ) hm m1 m2 m3 m4 m5 m7 m9 m10 m11 m12 m13 m15 m16 m17 (0 : Int32) (1 : Int32) (0 : Int32) (12 : Int32) )) (gPp.pre (av := [.ref hm, .int (12 : Int32), .int (2 : Int32)]) (wc := [(hm, .inr (6, [.int (0 : Int32), .ref m1, .ref m2, .ref m3, .ref m4, .ref m5, .int (1 : Int32), .ref m7, .int (0 : Int32), .ref m9, .ref m10, .ref m11, .ref m12, .ref m13, .int (0 : Int32), .ref m15, .ref m16, .ref m17]))]) hK hN [0] rfl (by decide)) gX6_digest_X6_ofEdgeNow rfl rfl kd_X6_ofEdgeNow ⟨by decide, by decide⟩ (st := [.long (-2787771748110779852 : Int64)]) rfl (Nat.le_of_ble_eq_true rfl) dX6_digest_109 ⟨by decide, by decide⟩) (fun u hu => ?_)
  refine g_i2l (v := (-1 : Int64)) B dX6_digest_112 (by decide) ?_
  refine g_ladd (v := (-2787771748110779853 : Int64)) B dX6_digest_113 (by decide) ?_
  refine g_lstore_n (lv' := [(0, .ref hm), (1, .long (-2787771748110779853 : Int64)), (3, .int (12 : Int32)), (4, .int (2 : Int32))]) B dX6_digest_114 rfl (by decide) [1, 0, 2, 3] rfl ?_
  refine g_iinc (lv' := [(0, .ref hm), (1, .long (-2787771748110779853 : Int64)), (3, .int (12 : Int32)), (4, .int (3 : Int32))]) B dX6_digest_115 3 rfl (by decide) (by decide) [1, 2, 3, 0] rfl ?_
  refine g_goto (tgt := 94) B dX6_digest_118 (by decide) ?_
  refine g_iload B dX6_digest_94 3 rfl ?_
  refine g_iconst (v := (3 : Int32)) B dX6_digest_96 (by decide) ?_
  refine g_icmp_ge (tgt := 121) B dX6_digest_97 (by decide) (fun _ => ?_) (fun c122 => absurd (by decide) c122)
  refine g_iinc (lv' := [(0, .ref hm), (1, .long (-2787771748110779853 : Int64)), (3, .int (13 : Int32)), (4, .int (3 : Int32))]) B dX6_digest_121 2 rfl (by decide) (by decide) [1, 2, 0, 3] rfl ?_
  refine g_goto (tgt := 85) B dX6_digest_124 (by decide) ?_
  refine g_iload_n B dX6_digest_85 2 rfl ?_
  refine g_bipush (v := (24 : Int32)) B dX6_digest_86 (by decide) ?_
  refine g_icmp_ge (tgt := 127) B dX6_digest_88 (by decide) (fun c123 => absurd c123 (by decide)) (fun _ => ?_)
  refine g_iconst (v := (0 : Int32)) B dX6_digest_91 (by decide) ?_
  refine g_istore (lv' := [(0, .ref hm), (1, .long (-2787771748110779853 : Int64)), (3, .int (13 : Int32)), (4, .int (0 : Int32))]) B dX6_digest_92 (by decide) [1, 2, 3, 0] rfl ?_
  refine g_iload B dX6_digest_94 3 rfl ?_
  refine g_iconst (v := (3 : Int32)) B dX6_digest_96 (by decide) ?_
  refine g_icmp_ge (tgt := 121) B dX6_digest_97 (by decide) (fun c124 => absurd c124 (by decide)) (fun _ => ?_)
  refine g_lload_n B dX6_digest_100 1 rfl ?_
  refine g_ldc2 (v := (31 : Int64)) B dX6_digest_101 (List.mem_of_getElem? (i := 3) rfl) ?_
  refine g_lmul (v := (5812796177113582637 : Int64)) B dX6_digest_104 (by decide) ?_
  refine g_aload_n B dX6_digest_105 0 rfl ?_
  refine g_iload_n B dX6_digest_106 2 rfl ?_
  refine g_iload B dX6_digest_107 3 rfl ?_
  refine g_callP (g_runV (q0 := 0) (ci := 6) B hK rfl rfl (PM.met (r_ofEdgeNow_n l (D := D) (cI := cI) (cL := cL) (cZ := cZ) hm m1 m2 m3 m4 m5 m7 m9 m10 m11 m12 m13 m15 m16 m17 (0 : Int32) (1 : Int32) (0 : Int32) (13 : Int32) (0 : Int32) (by first | assumption | decide))) (gPp.pre (av := [.ref hm, .int (13 : Int32), .int (0 : Int32)]) (wc := [(hm, .inr (6, [.int (0 : Int32), .ref m1, .ref m2, .ref m3, .ref m4, .ref m5, .int (1 : Int32), .ref m7, .int (0 : Int32), .ref m9, .ref m10, .ref m11, .ref m12, .ref m13, .int (0 : Int32), .ref m15, .ref m16, .ref m17]))]) hK hN [0] rfl (by decide)) gX6_digest_X6_ofEdgeNow rfl rfl kd_X6_ofEdgeNow ⟨by decide, by decide⟩ (st := [.long (5812796177113582637 : Int64)]) rfl (Nat.le_of_ble_eq_true rfl) dX6_digest_109 ⟨by decide, by decide⟩) (fun u hu => ?_)
  refine g_i2l (v := (0 : Int64)) B dX6_digest_112 (by decide) ?_
  refine g_ladd (v := (5812796177113582637 : Int64)) B dX6_digest_113 (by decide) ?_
  refine g_lstore_n (lv' := [(0, .ref hm), (1, .long (5812796177113582637 : Int64)), (3, .int (13 : Int32)), (4, .int (0 : Int32))]) B dX6_digest_114 rfl (by decide) [1, 0, 2, 3] rfl ?_
  refine g_iinc (lv' := [(0, .ref hm), (1, .long (5812796177113582637 : Int64)), (3, .int (13 : Int32)), (4, .int (1 : Int32))]) B dX6_digest_115 3 rfl (by decide) (by decide) [1, 2, 3, 0] rfl ?_
  refine g_goto (tgt := 94) B dX6_digest_118 (by decide) ?_
  refine g_iload B dX6_digest_94 3 rfl ?_
  refine g_iconst (v := (3 : Int32)) B dX6_digest_96 (by decide) ?_
  refine g_icmp_ge (tgt := 121) B dX6_digest_97 (by decide) (fun c126 => absurd c126 (by decide)) (fun _ => ?_)
  refine g_lload_n B dX6_digest_100 1 rfl ?_
  refine g_ldc2 (v := (31 : Int64)) B dX6_digest_101 (List.mem_of_getElem? (i := 3) rfl) ?_
  refine g_lmul (v := (-4270759246574454413 : Int64)) B dX6_digest_104 (by decide) ?_
  refine g_aload_n B dX6_digest_105 0 rfl ?_
  refine g_iload_n B dX6_digest_106 2 rfl ?_
  refine g_iload B dX6_digest_107 3 rfl ?_
  refine g_callP (g_runV (q0 := 0) (ci := 6) B hK rfl rfl (PM.met (r_ofEdgeNow_n l (D := D) (cI := cI) (cL := cL) (cZ := cZ) hm m1 m2 m3 m4 m5 m7 m9 m10 m11 m12 m13 m15 m16 m17 (0 : Int32) (1 : Int32) (0 : Int32) (13 : Int32) (1 : Int32) (by first | assumption | decide))) (gPp.pre (av := [.ref hm, .int (13 : Int32), .int (1 : Int32)]) (wc := [(hm, .inr (6, [.int (0 : Int32), .ref m1, .ref m2, .ref m3, .ref m4, .ref m5, .int (1 : Int32), .ref m7, .int (0 : Int32), .ref m9, .ref m10, .ref m11, .ref m12, .ref m13, .int (0 : Int32), .ref m15, .ref m16, .ref m17]))]) hK hN [0] rfl (by decide)) gX6_digest_X6_ofEdgeNow rfl rfl kd_X6_ofEdgeNow ⟨by decide, by decide⟩ (st := [.long (-4270759246574454413 : Int64)]) rfl (Nat.le_of_ble_eq_true rfl) dX6_digest_109 ⟨by decide, by decide⟩) (fun u hu => ?_)
  refine g_i2l (v := (0 : Int64)) B dX6_digest_112 (by decide) ?_
  refine g_ladd (v := (-4270759246574454413 : Int64)) B dX6_digest_113 (by decide) ?_
  refine g_lstore_n (lv' := [(0, .ref hm), (1, .long (-4270759246574454413 : Int64)), (3, .int (13 : Int32)), (4, .int (1 : Int32))]) B dX6_digest_114 rfl (by decide) [1, 0, 2, 3] rfl ?_
  refine g_iinc (lv' := [(0, .ref hm), (1, .long (-4270759246574454413 : Int64)), (3, .int (13 : Int32)), (4, .int (2 : Int32))]) B dX6_digest_115 3 rfl (by decide) (by decide) [1, 2, 3, 0] rfl ?_
  refine g_goto (tgt := 94) B dX6_digest_118 (by decide) ?_
  refine g_iload B dX6_digest_94 3 rfl ?_
  refine g_iconst (v := (3 : Int32)) B dX6_digest_96 (by decide) ?_
  refine g_icmp_ge (tgt := 121) B dX6_digest_97 (by decide) (fun c128 => absurd c128 (by decide)) (fun _ => ?_)
  refine g_lload_n B dX6_digest_100 1 rfl ?_
  refine g_ldc2 (v := (31 : Int64)) B dX6_digest_101 (List.mem_of_getElem? (i := 3) rfl) ?_
  refine g_lmul (v := (-3266328127841225491 : Int64)) B dX6_digest_104 (by decide) ?_
  refine g_aload_n B dX6_digest_105 0 rfl ?_
  refine g_iload_n B dX6_digest_106 2 rfl ?_
  refine g_iload B dX6_digest_107 3 rfl ?_
  refine g_callP (g_runV (q0 := 0) (ci := 6) B hK rfl rfl (PM.met (r_ofEdgeNow_2 l (D := D) (cI := cI) (cL := cL) (cZ := cZ) hm m1 m2 m3 m4 m5 m7 m9 m10 m11 m12 m13 m15 m16 m17 (0 : Int32) (1 : Int32) (0 : Int32) (13 : Int32) )) (gPp.pre (av := [.ref hm, .int (13 : Int32), .int (2 : Int32)]) (wc := [(hm, .inr (6, [.int (0 : Int32), .ref m1, .ref m2, .ref m3, .ref m4, .ref m5, .int (1 : Int32), .ref m7, .int (0 : Int32), .ref m9, .ref m10, .ref m11, .ref m12, .ref m13, .int (0 : Int32), .ref m15, .ref m16, .ref m17]))]) hK hN [0] rfl (by decide)) gX6_digest_X6_ofEdgeNow rfl rfl kd_X6_ofEdgeNow ⟨by decide, by decide⟩ (st := [.long (-3266328127841225491 : Int64)]) rfl (Nat.le_of_ble_eq_true rfl) dX6_digest_109 ⟨by decide, by decide⟩) (fun u hu => ?_)
  refine g_i2l (v := (-1 : Int64)) B dX6_digest_112 (by decide) ?_
  refine g_ladd (v := (-3266328127841225492 : Int64)) B dX6_digest_113 (by decide) ?_
  refine g_lstore_n (lv' := [(0, .ref hm), (1, .long (-3266328127841225492 : Int64)), (3, .int (13 : Int32)), (4, .int (2 : Int32))]) B dX6_digest_114 rfl (by decide) [1, 0, 2, 3] rfl ?_
  refine g_iinc (lv' := [(0, .ref hm), (1, .long (-3266328127841225492 : Int64)), (3, .int (13 : Int32)), (4, .int (3 : Int32))]) B dX6_digest_115 3 rfl (by decide) (by decide) [1, 2, 3, 0] rfl ?_
  refine g_goto (tgt := 94) B dX6_digest_118 (by decide) ?_
  refine g_iload B dX6_digest_94 3 rfl ?_
  refine g_iconst (v := (3 : Int32)) B dX6_digest_96 (by decide) ?_
  refine g_icmp_ge (tgt := 121) B dX6_digest_97 (by decide) (fun _ => ?_) (fun c130 => absurd (by decide) c130)
  refine g_iinc (lv' := [(0, .ref hm), (1, .long (-3266328127841225492 : Int64)), (3, .int (14 : Int32)), (4, .int (3 : Int32))]) B dX6_digest_121 2 rfl (by decide) (by decide) [1, 2, 0, 3] rfl ?_
  refine g_goto (tgt := 85) B dX6_digest_124 (by decide) ?_
  refine g_iload_n B dX6_digest_85 2 rfl ?_
  refine g_bipush (v := (24 : Int32)) B dX6_digest_86 (by decide) ?_
  refine g_icmp_ge (tgt := 127) B dX6_digest_88 (by decide) (fun c131 => absurd c131 (by decide)) (fun _ => ?_)
  refine g_iconst (v := (0 : Int32)) B dX6_digest_91 (by decide) ?_
  refine g_istore (lv' := [(0, .ref hm), (1, .long (-3266328127841225492 : Int64)), (3, .int (14 : Int32)), (4, .int (0 : Int32))]) B dX6_digest_92 (by decide) [1, 2, 3, 0] rfl ?_
  refine g_iload B dX6_digest_94 3 rfl ?_
  refine g_iconst (v := (3 : Int32)) B dX6_digest_96 (by decide) ?_
  refine g_icmp_ge (tgt := 121) B dX6_digest_97 (by decide) (fun c132 => absurd c132 (by decide)) (fun _ => ?_)
  refine g_lload_n B dX6_digest_100 1 rfl ?_
  refine g_ldc2 (v := (31 : Int64)) B dX6_digest_101 (List.mem_of_getElem? (i := 3) rfl) ?_
  refine g_lmul (v := (-9022451594530232172 : Int64)) B dX6_digest_104 (by decide) ?_
  refine g_aload_n B dX6_digest_105 0 rfl ?_
  refine g_iload_n B dX6_digest_106 2 rfl ?_
  refine g_iload B dX6_digest_107 3 rfl ?_
  refine g_callP (g_runV (q0 := 0) (ci := 6) B hK rfl rfl (PM.met (r_ofEdgeNow_n l (D := D) (cI := cI) (cL := cL) (cZ := cZ) hm m1 m2 m3 m4 m5 m7 m9 m10 m11 m12 m13 m15 m16 m17 (0 : Int32) (1 : Int32) (0 : Int32) (14 : Int32) (0 : Int32) (by first | assumption | decide))) (gPp.pre (av := [.ref hm, .int (14 : Int32), .int (0 : Int32)]) (wc := [(hm, .inr (6, [.int (0 : Int32), .ref m1, .ref m2, .ref m3, .ref m4, .ref m5, .int (1 : Int32), .ref m7, .int (0 : Int32), .ref m9, .ref m10, .ref m11, .ref m12, .ref m13, .int (0 : Int32), .ref m15, .ref m16, .ref m17]))]) hK hN [0] rfl (by decide)) gX6_digest_X6_ofEdgeNow rfl rfl kd_X6_ofEdgeNow ⟨by decide, by decide⟩ (st := [.long (-9022451594530232172 : Int64)]) rfl (Nat.le_of_ble_eq_true rfl) dX6_digest_109 ⟨by decide, by decide⟩) (fun u hu => ?_)
  refine g_i2l (v := (0 : Int64)) B dX6_digest_112 (by decide) ?_
  refine g_ladd (v := (-9022451594530232172 : Int64)) B dX6_digest_113 (by decide) ?_
  refine g_lstore_n (lv' := [(0, .ref hm), (1, .long (-9022451594530232172 : Int64)), (3, .int (14 : Int32)), (4, .int (0 : Int32))]) B dX6_digest_114 rfl (by decide) [1, 0, 2, 3] rfl ?_
  refine g_iinc (lv' := [(0, .ref hm), (1, .long (-9022451594530232172 : Int64)), (3, .int (14 : Int32)), (4, .int (1 : Int32))]) B dX6_digest_115 3 rfl (by decide) (by decide) [1, 2, 3, 0] rfl ?_
  refine g_goto (tgt := 94) B dX6_digest_118 (by decide) ?_
  refine g_iload B dX6_digest_94 3 rfl ?_
  refine g_iconst (v := (3 : Int32)) B dX6_digest_96 (by decide) ?_
  refine g_icmp_ge (tgt := 121) B dX6_digest_97 (by decide) (fun c134 => absurd c134 (by decide)) (fun _ => ?_)
  refine g_lload_n B dX6_digest_100 1 rfl ?_
  refine g_ldc2 (v := (31 : Int64)) B dX6_digest_101 (List.mem_of_getElem? (i := 3) rfl) ?_
  refine g_lmul (v := (-2994838324793923092 : Int64)) B dX6_digest_104 (by decide) ?_
  refine g_aload_n B dX6_digest_105 0 rfl ?_
  refine g_iload_n B dX6_digest_106 2 rfl ?_
  refine g_iload B dX6_digest_107 3 rfl ?_
  refine g_callP (g_runV (q0 := 0) (ci := 6) B hK rfl rfl (PM.met (r_ofEdgeNow_n l (D := D) (cI := cI) (cL := cL) (cZ := cZ) hm m1 m2 m3 m4 m5 m7 m9 m10 m11 m12 m13 m15 m16 m17 (0 : Int32) (1 : Int32) (0 : Int32) (14 : Int32) (1 : Int32) (by first | assumption | decide))) (gPp.pre (av := [.ref hm, .int (14 : Int32), .int (1 : Int32)]) (wc := [(hm, .inr (6, [.int (0 : Int32), .ref m1, .ref m2, .ref m3, .ref m4, .ref m5, .int (1 : Int32), .ref m7, .int (0 : Int32), .ref m9, .ref m10, .ref m11, .ref m12, .ref m13, .int (0 : Int32), .ref m15, .ref m16, .ref m17]))]) hK hN [0] rfl (by decide)) gX6_digest_X6_ofEdgeNow rfl rfl kd_X6_ofEdgeNow ⟨by decide, by decide⟩ (st := [.long (-2994838324793923092 : Int64)]) rfl (Nat.le_of_ble_eq_true rfl) dX6_digest_109 ⟨by decide, by decide⟩) (fun u hu => ?_)
  refine g_i2l (v := (0 : Int64)) B dX6_digest_112 (by decide) ?_
  refine g_ladd (v := (-2994838324793923092 : Int64)) B dX6_digest_113 (by decide) ?_
  refine g_lstore_n (lv' := [(0, .ref hm), (1, .long (-2994838324793923092 : Int64)), (3, .int (14 : Int32)), (4, .int (1 : Int32))]) B dX6_digest_114 rfl (by decide) [1, 0, 2, 3] rfl ?_
  refine g_iinc (lv' := [(0, .ref hm), (1, .long (-2994838324793923092 : Int64)), (3, .int (14 : Int32)), (4, .int (2 : Int32))]) B dX6_digest_115 3 rfl (by decide) (by decide) [1, 2, 3, 0] rfl ?_
  refine g_goto (tgt := 94) B dX6_digest_118 (by decide) ?_
  refine g_iload B dX6_digest_94 3 rfl ?_
  refine g_iconst (v := (3 : Int32)) B dX6_digest_96 (by decide) ?_
  refine g_icmp_ge (tgt := 121) B dX6_digest_97 (by decide) (fun c136 => absurd c136 (by decide)) (fun _ => ?_)
  refine g_lload_n B dX6_digest_100 1 rfl ?_
  refine g_ldc2 (v := (31 : Int64)) B dX6_digest_101 (List.mem_of_getElem? (i := 3) rfl) ?_
  refine g_lmul (v := (-606267700063857772 : Int64)) B dX6_digest_104 (by decide) ?_
  refine g_aload_n B dX6_digest_105 0 rfl ?_
  refine g_iload_n B dX6_digest_106 2 rfl ?_
  refine g_iload B dX6_digest_107 3 rfl ?_
  refine g_callP (g_runV (q0 := 0) (ci := 6) B hK rfl rfl (PM.met (r_ofEdgeNow_2 l (D := D) (cI := cI) (cL := cL) (cZ := cZ) hm m1 m2 m3 m4 m5 m7 m9 m10 m11 m12 m13 m15 m16 m17 (0 : Int32) (1 : Int32) (0 : Int32) (14 : Int32) )) (gPp.pre (av := [.ref hm, .int (14 : Int32), .int (2 : Int32)]) (wc := [(hm, .inr (6, [.int (0 : Int32), .ref m1, .ref m2, .ref m3, .ref m4, .ref m5, .int (1 : Int32), .ref m7, .int (0 : Int32), .ref m9, .ref m10, .ref m11, .ref m12, .ref m13, .int (0 : Int32), .ref m15, .ref m16, .ref m17]))]) hK hN [0] rfl (by decide)) gX6_digest_X6_ofEdgeNow rfl rfl kd_X6_ofEdgeNow ⟨by decide, by decide⟩ (st := [.long (-606267700063857772 : Int64)]) rfl (Nat.le_of_ble_eq_true rfl) dX6_digest_109 ⟨by decide, by decide⟩) (fun u hu => ?_)
  refine g_i2l (v := (-1 : Int64)) B dX6_digest_112 (by decide) ?_
  refine g_ladd (v := (-606267700063857773 : Int64)) B dX6_digest_113 (by decide) ?_
  refine g_lstore_n (lv' := [(0, .ref hm), (1, .long (-606267700063857773 : Int64)), (3, .int (14 : Int32)), (4, .int (2 : Int32))]) B dX6_digest_114 rfl (by decide) [1, 0, 2, 3] rfl ?_
  refine g_iinc (lv' := [(0, .ref hm), (1, .long (-606267700063857773 : Int64)), (3, .int (14 : Int32)), (4, .int (3 : Int32))]) B dX6_digest_115 3 rfl (by decide) (by decide) [1, 2, 3, 0] rfl ?_
  refine g_goto (tgt := 94) B dX6_digest_118 (by decide) ?_
  refine g_iload B dX6_digest_94 3 rfl ?_
  refine g_iconst (v := (3 : Int32)) B dX6_digest_96 (by decide) ?_
  refine g_icmp_ge (tgt := 121) B dX6_digest_97 (by decide) (fun _ => ?_) (fun c138 => absurd (by decide) c138)
  refine g_iinc (lv' := [(0, .ref hm), (1, .long (-606267700063857773 : Int64)), (3, .int (15 : Int32)), (4, .int (3 : Int32))]) B dX6_digest_121 2 rfl (by decide) (by decide) [1, 2, 0, 3] rfl ?_
  refine g_goto (tgt := 85) B dX6_digest_124 (by decide) ?_
  refine g_iload_n B dX6_digest_85 2 rfl ?_
  refine g_bipush (v := (24 : Int32)) B dX6_digest_86 (by decide) ?_
  refine g_icmp_ge (tgt := 127) B dX6_digest_88 (by decide) (fun c139 => absurd c139 (by decide)) (fun _ => ?_)
  refine g_iconst (v := (0 : Int32)) B dX6_digest_91 (by decide) ?_
  refine g_istore (lv' := [(0, .ref hm), (1, .long (-606267700063857773 : Int64)), (3, .int (15 : Int32)), (4, .int (0 : Int32))]) B dX6_digest_92 (by decide) [1, 2, 3, 0] rfl ?_
  refine g_iload B dX6_digest_94 3 rfl ?_
  refine g_iconst (v := (3 : Int32)) B dX6_digest_96 (by decide) ?_
  refine g_icmp_ge (tgt := 121) B dX6_digest_97 (by decide) (fun c140 => absurd c140 (by decide)) (fun _ => ?_)
  refine g_lload_n B dX6_digest_100 1 rfl ?_
  refine g_ldc2 (v := (31 : Int64)) B dX6_digest_101 (List.mem_of_getElem? (i := 3) rfl) ?_
  refine g_lmul (v := (-347554628270039347 : Int64)) B dX6_digest_104 (by decide) ?_
  refine g_aload_n B dX6_digest_105 0 rfl ?_
  refine g_iload_n B dX6_digest_106 2 rfl ?_
  refine g_iload B dX6_digest_107 3 rfl ?_
  refine g_callP (g_runV (q0 := 0) (ci := 6) B hK rfl rfl (PM.met (r_ofEdgeNow_n l (D := D) (cI := cI) (cL := cL) (cZ := cZ) hm m1 m2 m3 m4 m5 m7 m9 m10 m11 m12 m13 m15 m16 m17 (0 : Int32) (1 : Int32) (0 : Int32) (15 : Int32) (0 : Int32) (by first | assumption | decide))) (gPp.pre (av := [.ref hm, .int (15 : Int32), .int (0 : Int32)]) (wc := [(hm, .inr (6, [.int (0 : Int32), .ref m1, .ref m2, .ref m3, .ref m4, .ref m5, .int (1 : Int32), .ref m7, .int (0 : Int32), .ref m9, .ref m10, .ref m11, .ref m12, .ref m13, .int (0 : Int32), .ref m15, .ref m16, .ref m17]))]) hK hN [0] rfl (by decide)) gX6_digest_X6_ofEdgeNow rfl rfl kd_X6_ofEdgeNow ⟨by decide, by decide⟩ (st := [.long (-347554628270039347 : Int64)]) rfl (Nat.le_of_ble_eq_true rfl) dX6_digest_109 ⟨by decide, by decide⟩) (fun u hu => ?_)
  refine g_i2l (v := (0 : Int64)) B dX6_digest_112 (by decide) ?_
  refine g_ladd (v := (-347554628270039347 : Int64)) B dX6_digest_113 (by decide) ?_
  refine g_lstore_n (lv' := [(0, .ref hm), (1, .long (-347554628270039347 : Int64)), (3, .int (15 : Int32)), (4, .int (0 : Int32))]) B dX6_digest_114 rfl (by decide) [1, 0, 2, 3] rfl ?_
  refine g_iinc (lv' := [(0, .ref hm), (1, .long (-347554628270039347 : Int64)), (3, .int (15 : Int32)), (4, .int (1 : Int32))]) B dX6_digest_115 3 rfl (by decide) (by decide) [1, 2, 3, 0] rfl ?_
  refine g_goto (tgt := 94) B dX6_digest_118 (by decide) ?_
  refine g_iload B dX6_digest_94 3 rfl ?_
  refine g_iconst (v := (3 : Int32)) B dX6_digest_96 (by decide) ?_
  refine g_icmp_ge (tgt := 121) B dX6_digest_97 (by decide) (fun c142 => absurd c142 (by decide)) (fun _ => ?_)
  refine g_lload_n B dX6_digest_100 1 rfl ?_
  refine g_ldc2 (v := (31 : Int64)) B dX6_digest_101 (List.mem_of_getElem? (i := 3) rfl) ?_
  refine g_lmul (v := (7672550597338331859 : Int64)) B dX6_digest_104 (by decide) ?_
  refine g_aload_n B dX6_digest_105 0 rfl ?_
  refine g_iload_n B dX6_digest_106 2 rfl ?_
  refine g_iload B dX6_digest_107 3 rfl ?_
  refine g_callP (g_runV (q0 := 0) (ci := 6) B hK rfl rfl (PM.met (r_ofEdgeNow_n l (D := D) (cI := cI) (cL := cL) (cZ := cZ) hm m1 m2 m3 m4 m5 m7 m9 m10 m11 m12 m13 m15 m16 m17 (0 : Int32) (1 : Int32) (0 : Int32) (15 : Int32) (1 : Int32) (by first | assumption | decide))) (gPp.pre (av := [.ref hm, .int (15 : Int32), .int (1 : Int32)]) (wc := [(hm, .inr (6, [.int (0 : Int32), .ref m1, .ref m2, .ref m3, .ref m4, .ref m5, .int (1 : Int32), .ref m7, .int (0 : Int32), .ref m9, .ref m10, .ref m11, .ref m12, .ref m13, .int (0 : Int32), .ref m15, .ref m16, .ref m17]))]) hK hN [0] rfl (by decide)) gX6_digest_X6_ofEdgeNow rfl rfl kd_X6_ofEdgeNow ⟨by decide, by decide⟩ (st := [.long (7672550597338331859 : Int64)]) rfl (Nat.le_of_ble_eq_true rfl) dX6_digest_109 ⟨by decide, by decide⟩) (fun u hu => ?_)
  refine g_i2l (v := (0 : Int64)) B dX6_digest_112 (by decide) ?_
  refine g_ladd (v := (7672550597338331859 : Int64)) B dX6_digest_113 (by decide) ?_
  refine g_lstore_n (lv' := [(0, .ref hm), (1, .long (7672550597338331859 : Int64)), (3, .int (15 : Int32)), (4, .int (1 : Int32))]) B dX6_digest_114 rfl (by decide) [1, 0, 2, 3] rfl ?_
  refine g_iinc (lv' := [(0, .ref hm), (1, .long (7672550597338331859 : Int64)), (3, .int (15 : Int32)), (4, .int (2 : Int32))]) B dX6_digest_115 3 rfl (by decide) (by decide) [1, 2, 3, 0] rfl ?_
  refine g_goto (tgt := 94) B dX6_digest_118 (by decide) ?_
  refine g_iload B dX6_digest_94 3 rfl ?_
  refine g_iconst (v := (3 : Int32)) B dX6_digest_96 (by decide) ?_
  refine g_icmp_ge (tgt := 121) B dX6_digest_97 (by decide) (fun c144 => absurd c144 (by decide)) (fun _ => ?_)
  refine g_lload_n B dX6_digest_100 1 rfl ?_
  refine g_ldc2 (v := (31 : Int64)) B dX6_digest_101 (List.mem_of_getElem? (i := 3) rfl) ?_
  refine g_lmul (v := (-1958604440735883379 : Int64)) B dX6_digest_104 (by decide) ?_
  refine g_aload_n B dX6_digest_105 0 rfl ?_
  refine g_iload_n B dX6_digest_106 2 rfl ?_
  refine g_iload B dX6_digest_107 3 rfl ?_
  refine g_callP (g_runV (q0 := 0) (ci := 6) B hK rfl rfl (PM.met (r_ofEdgeNow_2 l (D := D) (cI := cI) (cL := cL) (cZ := cZ) hm m1 m2 m3 m4 m5 m7 m9 m10 m11 m12 m13 m15 m16 m17 (0 : Int32) (1 : Int32) (0 : Int32) (15 : Int32) )) (gPp.pre (av := [.ref hm, .int (15 : Int32), .int (2 : Int32)]) (wc := [(hm, .inr (6, [.int (0 : Int32), .ref m1, .ref m2, .ref m3, .ref m4, .ref m5, .int (1 : Int32), .ref m7, .int (0 : Int32), .ref m9, .ref m10, .ref m11, .ref m12, .ref m13, .int (0 : Int32), .ref m15, .ref m16, .ref m17]))]) hK hN [0] rfl (by decide)) gX6_digest_X6_ofEdgeNow rfl rfl kd_X6_ofEdgeNow ⟨by decide, by decide⟩ (st := [.long (-1958604440735883379 : Int64)]) rfl (Nat.le_of_ble_eq_true rfl) dX6_digest_109 ⟨by decide, by decide⟩) (fun u hu => ?_)
  refine g_i2l (v := (-1 : Int64)) B dX6_digest_112 (by decide) ?_
  refine g_ladd (v := (-1958604440735883380 : Int64)) B dX6_digest_113 (by decide) ?_
  refine g_lstore_n (lv' := [(0, .ref hm), (1, .long (-1958604440735883380 : Int64)), (3, .int (15 : Int32)), (4, .int (2 : Int32))]) B dX6_digest_114 rfl (by decide) [1, 0, 2, 3] rfl ?_
  refine g_iinc (lv' := [(0, .ref hm), (1, .long (-1958604440735883380 : Int64)), (3, .int (15 : Int32)), (4, .int (3 : Int32))]) B dX6_digest_115 3 rfl (by decide) (by decide) [1, 2, 3, 0] rfl ?_
  refine g_goto (tgt := 94) B dX6_digest_118 (by decide) ?_
  refine g_iload B dX6_digest_94 3 rfl ?_
  refine g_iconst (v := (3 : Int32)) B dX6_digest_96 (by decide) ?_
  refine g_icmp_ge (tgt := 121) B dX6_digest_97 (by decide) (fun _ => ?_) (fun c146 => absurd (by decide) c146)
  refine g_iinc (lv' := [(0, .ref hm), (1, .long (-1958604440735883380 : Int64)), (3, .int (16 : Int32)), (4, .int (3 : Int32))]) B dX6_digest_121 2 rfl (by decide) (by decide) [1, 2, 0, 3] rfl ?_
  refine g_goto (tgt := 85) B dX6_digest_124 (by decide) ?_
  refine g_iload_n B dX6_digest_85 2 rfl ?_
  refine g_bipush (v := (24 : Int32)) B dX6_digest_86 (by decide) ?_
  refine g_icmp_ge (tgt := 127) B dX6_digest_88 (by decide) (fun c147 => absurd c147 (by decide)) (fun _ => ?_)
  refine g_iconst (v := (0 : Int32)) B dX6_digest_91 (by decide) ?_
  refine g_istore (lv' := [(0, .ref hm), (1, .long (-1958604440735883380 : Int64)), (3, .int (16 : Int32)), (4, .int (0 : Int32))]) B dX6_digest_92 (by decide) [1, 2, 3, 0] rfl ?_
  refine g_iload B dX6_digest_94 3 rfl ?_
  refine g_iconst (v := (3 : Int32)) B dX6_digest_96 (by decide) ?_
  refine g_icmp_ge (tgt := 121) B dX6_digest_97 (by decide) (fun c148 => absurd c148 (by decide)) (fun _ => ?_)
  refine g_lload_n B dX6_digest_100 1 rfl ?_
  refine g_ldc2 (v := (31 : Int64)) B dX6_digest_101 (List.mem_of_getElem? (i := 3) rfl) ?_
  refine g_lmul (v := (-5376505441683729932 : Int64)) B dX6_digest_104 (by decide) ?_
  refine g_aload_n B dX6_digest_105 0 rfl ?_
  refine g_iload_n B dX6_digest_106 2 rfl ?_
  refine g_iload B dX6_digest_107 3 rfl ?_
  refine g_callP (g_runV (q0 := 0) (ci := 6) B hK rfl rfl (PM.met (r_ofEdgeNow_n l (D := D) (cI := cI) (cL := cL) (cZ := cZ) hm m1 m2 m3 m4 m5 m7 m9 m10 m11 m12 m13 m15 m16 m17 (0 : Int32) (1 : Int32) (0 : Int32) (16 : Int32) (0 : Int32) (by first | assumption | decide))) (gPp.pre (av := [.ref hm, .int (16 : Int32), .int (0 : Int32)]) (wc := [(hm, .inr (6, [.int (0 : Int32), .ref m1, .ref m2, .ref m3, .ref m4, .ref m5, .int (1 : Int32), .ref m7, .int (0 : Int32), .ref m9, .ref m10, .ref m11, .ref m12, .ref m13, .int (0 : Int32), .ref m15, .ref m16, .ref m17]))]) hK hN [0] rfl (by decide)) gX6_digest_X6_ofEdgeNow rfl rfl kd_X6_ofEdgeNow ⟨by decide, by decide⟩ (st := [.long (-5376505441683729932 : Int64)]) rfl (Nat.le_of_ble_eq_true rfl) dX6_digest_109 ⟨by decide, by decide⟩) (fun u hu => ?_)
  refine g_i2l (v := (0 : Int64)) B dX6_digest_112 (by decide) ?_
  refine g_ladd (v := (-5376505441683729932 : Int64)) B dX6_digest_113 (by decide) ?_
  refine g_lstore_n (lv' := [(0, .ref hm), (1, .long (-5376505441683729932 : Int64)), (3, .int (16 : Int32)), (4, .int (0 : Int32))]) B dX6_digest_114 rfl (by decide) [1, 0, 2, 3] rfl ?_
  refine g_iinc (lv' := [(0, .ref hm), (1, .long (-5376505441683729932 : Int64)), (3, .int (16 : Int32)), (4, .int (1 : Int32))]) B dX6_digest_115 3 rfl (by decide) (by decide) [1, 2, 3, 0] rfl ?_
  refine g_goto (tgt := 94) B dX6_digest_118 (by decide) ?_
  refine g_iload B dX6_digest_94 3 rfl ?_
  refine g_iconst (v := (3 : Int32)) B dX6_digest_96 (by decide) ?_
  refine g_icmp_ge (tgt := 121) B dX6_digest_97 (by decide) (fun c150 => absurd c150 (by decide)) (fun _ => ?_)
  refine g_lload_n B dX6_digest_100 1 rfl ?_
  refine g_ldc2 (v := (31 : Int64)) B dX6_digest_101 (List.mem_of_getElem? (i := 3) rfl) ?_
  refine g_lmul (v := (-650972028809663348 : Int64)) B dX6_digest_104 (by decide) ?_
  refine g_aload_n B dX6_digest_105 0 rfl ?_
  refine g_iload_n B dX6_digest_106 2 rfl ?_
  refine g_iload B dX6_digest_107 3 rfl ?_
  refine g_callP (g_runV (q0 := 0) (ci := 6) B hK rfl rfl (PM.met (r_ofEdgeNow_n l (D := D) (cI := cI) (cL := cL) (cZ := cZ) hm m1 m2 m3 m4 m5 m7 m9 m10 m11 m12 m13 m15 m16 m17 (0 : Int32) (1 : Int32) (0 : Int32) (16 : Int32) (1 : Int32) (by first | assumption | decide))) (gPp.pre (av := [.ref hm, .int (16 : Int32), .int (1 : Int32)]) (wc := [(hm, .inr (6, [.int (0 : Int32), .ref m1, .ref m2, .ref m3, .ref m4, .ref m5, .int (1 : Int32), .ref m7, .int (0 : Int32), .ref m9, .ref m10, .ref m11, .ref m12, .ref m13, .int (0 : Int32), .ref m15, .ref m16, .ref m17]))]) hK hN [0] rfl (by decide)) gX6_digest_X6_ofEdgeNow rfl rfl kd_X6_ofEdgeNow ⟨by decide, by decide⟩ (st := [.long (-650972028809663348 : Int64)]) rfl (Nat.le_of_ble_eq_true rfl) dX6_digest_109 ⟨by decide, by decide⟩) (fun u hu => ?_)
  refine g_i2l (v := (0 : Int64)) B dX6_digest_112 (by decide) ?_
  refine g_ladd (v := (-650972028809663348 : Int64)) B dX6_digest_113 (by decide) ?_
  refine g_lstore_n (lv' := [(0, .ref hm), (1, .long (-650972028809663348 : Int64)), (3, .int (16 : Int32)), (4, .int (1 : Int32))]) B dX6_digest_114 rfl (by decide) [1, 0, 2, 3] rfl ?_
  refine g_iinc (lv' := [(0, .ref hm), (1, .long (-650972028809663348 : Int64)), (3, .int (16 : Int32)), (4, .int (2 : Int32))]) B dX6_digest_115 3 rfl (by decide) (by decide) [1, 2, 3, 0] rfl ?_
  refine g_goto (tgt := 94) B dX6_digest_118 (by decide) ?_
  refine g_iload B dX6_digest_94 3 rfl ?_
  refine g_iconst (v := (3 : Int32)) B dX6_digest_96 (by decide) ?_
  refine g_icmp_ge (tgt := 121) B dX6_digest_97 (by decide) (fun c152 => absurd c152 (by decide)) (fun _ => ?_)
  refine g_lload_n B dX6_digest_100 1 rfl ?_
  refine g_ldc2 (v := (31 : Int64)) B dX6_digest_101 (List.mem_of_getElem? (i := 3) rfl) ?_
  refine g_lmul (v := (-1733388819390012172 : Int64)) B dX6_digest_104 (by decide) ?_
  refine g_aload_n B dX6_digest_105 0 rfl ?_
  refine g_iload_n B dX6_digest_106 2 rfl ?_
  refine g_iload B dX6_digest_107 3 rfl ?_
  refine g_callP (g_runV (q0 := 0) (ci := 6) B hK rfl rfl (PM.met (r_ofEdgeNow_2 l (D := D) (cI := cI) (cL := cL) (cZ := cZ) hm m1 m2 m3 m4 m5 m7 m9 m10 m11 m12 m13 m15 m16 m17 (0 : Int32) (1 : Int32) (0 : Int32) (16 : Int32) )) (gPp.pre (av := [.ref hm, .int (16 : Int32), .int (2 : Int32)]) (wc := [(hm, .inr (6, [.int (0 : Int32), .ref m1, .ref m2, .ref m3, .ref m4, .ref m5, .int (1 : Int32), .ref m7, .int (0 : Int32), .ref m9, .ref m10, .ref m11, .ref m12, .ref m13, .int (0 : Int32), .ref m15, .ref m16, .ref m17]))]) hK hN [0] rfl (by decide)) gX6_digest_X6_ofEdgeNow rfl rfl kd_X6_ofEdgeNow ⟨by decide, by decide⟩ (st := [.long (-1733388819390012172 : Int64)]) rfl (Nat.le_of_ble_eq_true rfl) dX6_digest_109 ⟨by decide, by decide⟩) (fun u hu => ?_)
  refine g_i2l (v := (-1 : Int64)) B dX6_digest_112 (by decide) ?_
  refine g_ladd (v := (-1733388819390012173 : Int64)) B dX6_digest_113 (by decide) ?_
  refine g_lstore_n (lv' := [(0, .ref hm), (1, .long (-1733388819390012173 : Int64)), (3, .int (16 : Int32)), (4, .int (2 : Int32))]) B dX6_digest_114 rfl (by decide) [1, 0, 2, 3] rfl ?_
  refine g_iinc (lv' := [(0, .ref hm), (1, .long (-1733388819390012173 : Int64)), (3, .int (16 : Int32)), (4, .int (3 : Int32))]) B dX6_digest_115 3 rfl (by decide) (by decide) [1, 2, 3, 0] rfl ?_
  refine g_goto (tgt := 94) B dX6_digest_118 (by decide) ?_
  refine g_iload B dX6_digest_94 3 rfl ?_
  refine g_iconst (v := (3 : Int32)) B dX6_digest_96 (by decide) ?_
  refine g_icmp_ge (tgt := 121) B dX6_digest_97 (by decide) (fun _ => ?_) (fun c154 => absurd (by decide) c154)
  refine g_iinc (lv' := [(0, .ref hm), (1, .long (-1733388819390012173 : Int64)), (3, .int (17 : Int32)), (4, .int (3 : Int32))]) B dX6_digest_121 2 rfl (by decide) (by decide) [1, 2, 0, 3] rfl ?_
  refine g_goto (tgt := 85) B dX6_digest_124 (by decide) ?_
  refine g_iload_n B dX6_digest_85 2 rfl ?_
  refine g_bipush (v := (24 : Int32)) B dX6_digest_86 (by decide) ?_
  refine g_icmp_ge (tgt := 127) B dX6_digest_88 (by decide) (fun c155 => absurd c155 (by decide)) (fun _ => ?_)
  refine g_iconst (v := (0 : Int32)) B dX6_digest_91 (by decide) ?_
  refine g_istore (lv' := [(0, .ref hm), (1, .long (-1733388819390012173 : Int64)), (3, .int (17 : Int32)), (4, .int (0 : Int32))]) B dX6_digest_92 (by decide) [1, 2, 3, 0] rfl ?_
  refine g_iload B dX6_digest_94 3 rfl ?_
  refine g_iconst (v := (3 : Int32)) B dX6_digest_96 (by decide) ?_
  refine g_icmp_ge (tgt := 121) B dX6_digest_97 (by decide) (fun c156 => absurd c156 (by decide)) (fun _ => ?_)
  refine g_lload_n B dX6_digest_100 1 rfl ?_
  refine g_ldc2 (v := (31 : Int64)) B dX6_digest_101 (List.mem_of_getElem? (i := 3) rfl) ?_
  refine g_lmul (v := (1605178820038277485 : Int64)) B dX6_digest_104 (by decide) ?_
  refine g_aload_n B dX6_digest_105 0 rfl ?_
  refine g_iload_n B dX6_digest_106 2 rfl ?_
  refine g_iload B dX6_digest_107 3 rfl ?_
  refine g_callP (g_runV (q0 := 0) (ci := 6) B hK rfl rfl (PM.met (r_ofEdgeNow_n l (D := D) (cI := cI) (cL := cL) (cZ := cZ) hm m1 m2 m3 m4 m5 m7 m9 m10 m11 m12 m13 m15 m16 m17 (0 : Int32) (1 : Int32) (0 : Int32) (17 : Int32) (0 : Int32) (by first | assumption | decide))) (gPp.pre (av := [.ref hm, .int (17 : Int32), .int (0 : Int32)]) (wc := [(hm, .inr (6, [.int (0 : Int32), .ref m1, .ref m2, .ref m3, .ref m4, .ref m5, .int (1 : Int32), .ref m7, .int (0 : Int32), .ref m9, .ref m10, .ref m11, .ref m12, .ref m13, .int (0 : Int32), .ref m15, .ref m16, .ref m17]))]) hK hN [0] rfl (by decide)) gX6_digest_X6_ofEdgeNow rfl rfl kd_X6_ofEdgeNow ⟨by decide, by decide⟩ (st := [.long (1605178820038277485 : Int64)]) rfl (Nat.le_of_ble_eq_true rfl) dX6_digest_109 ⟨by decide, by decide⟩) (fun u hu => ?_)
  refine g_i2l (v := (0 : Int64)) B dX6_digest_112 (by decide) ?_
  refine g_ladd (v := (1605178820038277485 : Int64)) B dX6_digest_113 (by decide) ?_
  refine g_lstore_n (lv' := [(0, .ref hm), (1, .long (1605178820038277485 : Int64)), (3, .int (17 : Int32)), (4, .int (0 : Int32))]) B dX6_digest_114 rfl (by decide) [1, 0, 2, 3] rfl ?_
  refine g_iinc (lv' := [(0, .ref hm), (1, .long (1605178820038277485 : Int64)), (3, .int (17 : Int32)), (4, .int (1 : Int32))]) B dX6_digest_115 3 rfl (by decide) (by decide) [1, 2, 3, 0] rfl ?_
  refine g_goto (tgt := 94) B dX6_digest_118 (by decide) ?_
  refine g_iload B dX6_digest_94 3 rfl ?_
  refine g_iconst (v := (3 : Int32)) B dX6_digest_96 (by decide) ?_
  refine g_icmp_ge (tgt := 121) B dX6_digest_97 (by decide) (fun c158 => absurd c158 (by decide)) (fun _ => ?_)
  refine g_lload_n B dX6_digest_100 1 rfl ?_
  refine g_ldc2 (v := (31 : Int64)) B dX6_digest_101 (List.mem_of_getElem? (i := 3) rfl) ?_
  refine g_lmul (v := (-5579688799942052813 : Int64)) B dX6_digest_104 (by decide) ?_
  refine g_aload_n B dX6_digest_105 0 rfl ?_
  refine g_iload_n B dX6_digest_106 2 rfl ?_
  refine g_iload B dX6_digest_107 3 rfl ?_
  refine g_callP (g_runV (q0 := 0) (ci := 6) B hK rfl rfl (PM.met (r_ofEdgeNow_n l (D := D) (cI := cI) (cL := cL) (cZ := cZ) hm m1 m2 m3 m4 m5 m7 m9 m10 m11 m12 m13 m15 m16 m17 (0 : Int32) (1 : Int32) (0 : Int32) (17 : Int32) (1 : Int32) (by first | assumption | decide))) (gPp.pre (av := [.ref hm, .int (17 : Int32), .int (1 : Int32)]) (wc := [(hm, .inr (6, [.int (0 : Int32), .ref m1, .ref m2, .ref m3, .ref m4, .ref m5, .int (1 : Int32), .ref m7, .int (0 : Int32), .ref m9, .ref m10, .ref m11, .ref m12, .ref m13, .int (0 : Int32), .ref m15, .ref m16, .ref m17]))]) hK hN [0] rfl (by decide)) gX6_digest_X6_ofEdgeNow rfl rfl kd_X6_ofEdgeNow ⟨by decide, by decide⟩ (st := [.long (-5579688799942052813 : Int64)]) rfl (Nat.le_of_ble_eq_true rfl) dX6_digest_109 ⟨by decide, by decide⟩) (fun u hu => ?_)
  refine g_i2l (v := (0 : Int64)) B dX6_digest_112 (by decide) ?_
  refine g_ladd (v := (-5579688799942052813 : Int64)) B dX6_digest_113 (by decide) ?_
  refine g_lstore_n (lv' := [(0, .ref hm), (1, .long (-5579688799942052813 : Int64)), (3, .int (17 : Int32)), (4, .int (1 : Int32))]) B dX6_digest_114 rfl (by decide) [1, 0, 2, 3] rfl ?_
  refine g_iinc (lv' := [(0, .ref hm), (1, .long (-5579688799942052813 : Int64)), (3, .int (17 : Int32)), (4, .int (2 : Int32))]) B dX6_digest_115 3 rfl (by decide) (by decide) [1, 2, 3, 0] rfl ?_
  refine g_goto (tgt := 94) B dX6_digest_118 (by decide) ?_
  refine g_iload B dX6_digest_94 3 rfl ?_
  refine g_iconst (v := (3 : Int32)) B dX6_digest_96 (by decide) ?_
  refine g_icmp_ge (tgt := 121) B dX6_digest_97 (by decide) (fun c160 => absurd c160 (by decide)) (fun _ => ?_)
  refine g_lload_n B dX6_digest_100 1 rfl ?_
  refine g_ldc2 (v := (31 : Int64)) B dX6_digest_101 (List.mem_of_getElem? (i := 3) rfl) ?_
  refine g_lmul (v := (-6949656134817672659 : Int64)) B dX6_digest_104 (by decide) ?_
  refine g_aload_n B dX6_digest_105 0 rfl ?_
  refine g_iload_n B dX6_digest_106 2 rfl ?_
  refine g_iload B dX6_digest_107 3 rfl ?_
  refine g_callP (g_runV (q0 := 0) (ci := 6) B hK rfl rfl (PM.met (r_ofEdgeNow_2 l (D := D) (cI := cI) (cL := cL) (cZ := cZ) hm m1 m2 m3 m4 m5 m7 m9 m10 m11 m12 m13 m15 m16 m17 (0 : Int32) (1 : Int32) (0 : Int32) (17 : Int32) )) (gPp.pre (av := [.ref hm, .int (17 : Int32), .int (2 : Int32)]) (wc := [(hm, .inr (6, [.int (0 : Int32), .ref m1, .ref m2, .ref m3, .ref m4, .ref m5, .int (1 : Int32), .ref m7, .int (0 : Int32), .ref m9, .ref m10, .ref m11, .ref m12, .ref m13, .int (0 : Int32), .ref m15, .ref m16, .ref m17]))]) hK hN [0] rfl (by decide)) gX6_digest_X6_ofEdgeNow rfl rfl kd_X6_ofEdgeNow ⟨by decide, by decide⟩ (st := [.long (-6949656134817672659 : Int64)]) rfl (Nat.le_of_ble_eq_true rfl) dX6_digest_109 ⟨by decide, by decide⟩) (fun u hu => ?_)
  refine g_i2l (v := (-1 : Int64)) B dX6_digest_112 (by decide) ?_
  refine g_ladd (v := (-6949656134817672660 : Int64)) B dX6_digest_113 (by decide) ?_
  refine g_lstore_n (lv' := [(0, .ref hm), (1, .long (-6949656134817672660 : Int64)), (3, .int (17 : Int32)), (4, .int (2 : Int32))]) B dX6_digest_114 rfl (by decide) [1, 0, 2, 3] rfl ?_
  refine g_iinc (lv' := [(0, .ref hm), (1, .long (-6949656134817672660 : Int64)), (3, .int (17 : Int32)), (4, .int (3 : Int32))]) B dX6_digest_115 3 rfl (by decide) (by decide) [1, 2, 3, 0] rfl ?_
  refine g_goto (tgt := 94) B dX6_digest_118 (by decide) ?_
  refine g_iload B dX6_digest_94 3 rfl ?_
  refine g_iconst (v := (3 : Int32)) B dX6_digest_96 (by decide) ?_
  refine g_icmp_ge (tgt := 121) B dX6_digest_97 (by decide) (fun _ => ?_) (fun c162 => absurd (by decide) c162)
  refine g_iinc (lv' := [(0, .ref hm), (1, .long (-6949656134817672660 : Int64)), (3, .int (18 : Int32)), (4, .int (3 : Int32))]) B dX6_digest_121 2 rfl (by decide) (by decide) [1, 2, 0, 3] rfl ?_
  refine g_goto (tgt := 85) B dX6_digest_124 (by decide) ?_
  refine g_iload_n B dX6_digest_85 2 rfl ?_
  refine g_bipush (v := (24 : Int32)) B dX6_digest_86 (by decide) ?_
  refine g_icmp_ge (tgt := 127) B dX6_digest_88 (by decide) (fun c163 => absurd c163 (by decide)) (fun _ => ?_)
  refine g_iconst (v := (0 : Int32)) B dX6_digest_91 (by decide) ?_
  refine g_istore (lv' := [(0, .ref hm), (1, .long (-6949656134817672660 : Int64)), (3, .int (18 : Int32)), (4, .int (0 : Int32))]) B dX6_digest_92 (by decide) [1, 2, 3, 0] rfl ?_
  refine g_iload B dX6_digest_94 3 rfl ?_
  refine g_iconst (v := (3 : Int32)) B dX6_digest_96 (by decide) ?_
  refine g_icmp_ge (tgt := 121) B dX6_digest_97 (by decide) (fun c164 => absurd c164 (by decide)) (fun _ => ?_)
  refine g_lload_n B dX6_digest_100 1 rfl ?_
  refine g_ldc2 (v := (31 : Int64)) B dX6_digest_101 (List.mem_of_getElem? (i := 3) rfl) ?_
  refine g_lmul (v := (5921588705166766932 : Int64)) B dX6_digest_104 (by decide) ?_
  refine g_aload_n B dX6_digest_105 0 rfl ?_
  refine g_iload_n B dX6_digest_106 2 rfl ?_
  refine g_iload B dX6_digest_107 3 rfl ?_
  refine g_callP (g_runV (q0 := 0) (ci := 6) B hK rfl rfl (PM.met (r_ofEdgeNow_n l (D := D) (cI := cI) (cL := cL) (cZ := cZ) hm m1 m2 m3 m4 m5 m7 m9 m10 m11 m12 m13 m15 m16 m17 (0 : Int32) (1 : Int32) (0 : Int32) (18 : Int32) (0 : Int32) (by first | assumption | decide))) (gPp.pre (av := [.ref hm, .int (18 : Int32), .int (0 : Int32)]) (wc := [(hm, .inr (6, [.int (0 : Int32), .ref m1, .ref m2, .ref m3, .ref m4, .ref m5, .int (1 : Int32), .ref m7, .int (0 : Int32), .ref m9, .ref m10, .ref m11, .ref m12, .ref m13, .int (0 : Int32), .ref m15, .ref m16, .ref m17]))]) hK hN [0] rfl (by decide)) gX6_digest_X6_ofEdgeNow rfl rfl kd_X6_ofEdgeNow ⟨by decide, by decide⟩ (st := [.long (5921588705166766932 : Int64)]) rfl (Nat.le_of_ble_eq_true rfl) dX6_digest_109 ⟨by decide, by decide⟩) (fun u hu => ?_)
  refine g_i2l (v := (0 : Int64)) B dX6_digest_112 (by decide) ?_
  refine g_ladd (v := (5921588705166766932 : Int64)) B dX6_digest_113 (by decide) ?_
  refine g_lstore_n (lv' := [(0, .ref hm), (1, .long (5921588705166766932 : Int64)), (3, .int (18 : Int32)), (4, .int (0 : Int32))]) B dX6_digest_114 rfl (by decide) [1, 0, 2, 3] rfl ?_
  refine g_iinc (lv' := [(0, .ref hm), (1, .long (5921588705166766932 : Int64)), (3, .int (18 : Int32)), (4, .int (1 : Int32))]) B dX6_digest_115 3 rfl (by decide) (by decide) [1, 2, 3, 0] rfl ?_
  refine g_goto (tgt := 94) B dX6_digest_118 (by decide) ?_
  refine g_iload B dX6_digest_94 3 rfl ?_
  refine g_iconst (v := (3 : Int32)) B dX6_digest_96 (by decide) ?_
  refine g_icmp_ge (tgt := 121) B dX6_digest_97 (by decide) (fun c166 => absurd c166 (by decide)) (fun _ => ?_)
  refine g_lload_n B dX6_digest_100 1 rfl ?_
  refine g_ldc2 (v := (31 : Int64)) B dX6_digest_101 (List.mem_of_getElem? (i := 3) rfl) ?_
  refine g_lmul (v := (-898190876925741268 : Int64)) B dX6_digest_104 (by decide) ?_
  refine g_aload_n B dX6_digest_105 0 rfl ?_
  refine g_iload_n B dX6_digest_106 2 rfl ?_
  refine g_iload B dX6_digest_107 3 rfl ?_
  refine g_callP (g_runV (q0 := 0) (ci := 6) B hK rfl rfl (PM.met (r_ofEdgeNow_n l (D := D) (cI := cI) (cL := cL) (cZ := cZ) hm m1 m2 m3 m4 m5 m7 m9 m10 m11 m12 m13 m15 m16 m17 (0 : Int32) (1 : Int32) (0 : Int32) (18 : Int32) (1 : Int32) (by first | assumption | decide))) (gPp.pre (av := [.ref hm, .int (18 : Int32), .int (1 : Int32)]) (wc := [(hm, .inr (6, [.int (0 : Int32), .ref m1, .ref m2, .ref m3, .ref m4, .ref m5, .int (1 : Int32), .ref m7, .int (0 : Int32), .ref m9, .ref m10, .ref m11, .ref m12, .ref m13, .int (0 : Int32), .ref m15, .ref m16, .ref m17]))]) hK hN [0] rfl (by decide)) gX6_digest_X6_ofEdgeNow rfl rfl kd_X6_ofEdgeNow ⟨by decide, by decide⟩ (st := [.long (-898190876925741268 : Int64)]) rfl (Nat.le_of_ble_eq_true rfl) dX6_digest_109 ⟨by decide, by decide⟩) (fun u hu => ?_)
  refine g_i2l (v := (0 : Int64)) B dX6_digest_112 (by decide) ?_
  refine g_ladd (v := (-898190876925741268 : Int64)) B dX6_digest_113 (by decide) ?_
  refine g_lstore_n (lv' := [(0, .ref hm), (1, .long (-898190876925741268 : Int64)), (3, .int (18 : Int32)), (4, .int (1 : Int32))]) B dX6_digest_114 rfl (by decide) [1, 0, 2, 3] rfl ?_
  refine g_iinc (lv' := [(0, .ref hm), (1, .long (-898190876925741268 : Int64)), (3, .int (18 : Int32)), (4, .int (2 : Int32))]) B dX6_digest_115 3 rfl (by decide) (by decide) [1, 2, 3, 0] rfl ?_
  refine g_goto (tgt := 94) B dX6_digest_118 (by decide) ?_
  refine g_iload B dX6_digest_94 3 rfl ?_
  refine g_iconst (v := (3 : Int32)) B dX6_digest_96 (by decide) ?_
  refine g_icmp_ge (tgt := 121) B dX6_digest_97 (by decide) (fun c168 => absurd c168 (by decide)) (fun _ => ?_)
  refine g_lload_n B dX6_digest_100 1 rfl ?_
  refine g_ldc2 (v := (31 : Int64)) B dX6_digest_101 (List.mem_of_getElem? (i := 3) rfl) ?_
  refine g_lmul (v := (9049570962721123924 : Int64)) B dX6_digest_104 (by decide) ?_
  refine g_aload_n B dX6_digest_105 0 rfl ?_
  refine g_iload_n B dX6_digest_106 2 rfl ?_
  refine g_iload B dX6_digest_107 3 rfl ?_
  refine g_callP (g_runV (q0 := 0) (ci := 6) B hK rfl rfl (PM.met (r_ofEdgeNow_2 l (D := D) (cI := cI) (cL := cL) (cZ := cZ) hm m1 m2 m3 m4 m5 m7 m9 m10 m11 m12 m13 m15 m16 m17 (0 : Int32) (1 : Int32) (0 : Int32) (18 : Int32) )) (gPp.pre (av := [.ref hm, .int (18 : Int32), .int (2 : Int32)]) (wc := [(hm, .inr (6, [.int (0 : Int32), .ref m1, .ref m2, .ref m3, .ref m4, .ref m5, .int (1 : Int32), .ref m7, .int (0 : Int32), .ref m9, .ref m10, .ref m11, .ref m12, .ref m13, .int (0 : Int32), .ref m15, .ref m16, .ref m17]))]) hK hN [0] rfl (by decide)) gX6_digest_X6_ofEdgeNow rfl rfl kd_X6_ofEdgeNow ⟨by decide, by decide⟩ (st := [.long (9049570962721123924 : Int64)]) rfl (Nat.le_of_ble_eq_true rfl) dX6_digest_109 ⟨by decide, by decide⟩) (fun u hu => ?_)
  refine g_i2l (v := (-1 : Int64)) B dX6_digest_112 (by decide) ?_
  refine g_ladd (v := (9049570962721123923 : Int64)) B dX6_digest_113 (by decide) ?_
  refine g_lstore_n (lv' := [(0, .ref hm), (1, .long (9049570962721123923 : Int64)), (3, .int (18 : Int32)), (4, .int (2 : Int32))]) B dX6_digest_114 rfl (by decide) [1, 0, 2, 3] rfl ?_
  refine g_iinc (lv' := [(0, .ref hm), (1, .long (9049570962721123923 : Int64)), (3, .int (18 : Int32)), (4, .int (3 : Int32))]) B dX6_digest_115 3 rfl (by decide) (by decide) [1, 2, 3, 0] rfl ?_
  refine g_goto (tgt := 94) B dX6_digest_118 (by decide) ?_
  refine g_iload B dX6_digest_94 3 rfl ?_
  refine g_iconst (v := (3 : Int32)) B dX6_digest_96 (by decide) ?_
  refine g_icmp_ge (tgt := 121) B dX6_digest_97 (by decide) (fun _ => ?_) (fun c170 => absurd (by decide) c170)
  refine g_iinc (lv' := [(0, .ref hm), (1, .long (9049570962721123923 : Int64)), (3, .int (19 : Int32)), (4, .int (3 : Int32))]) B dX6_digest_121 2 rfl (by decide) (by decide) [1, 2, 0, 3] rfl ?_
  refine g_goto (tgt := 85) B dX6_digest_124 (by decide) ?_
  refine g_iload_n B dX6_digest_85 2 rfl ?_
  refine g_bipush (v := (24 : Int32)) B dX6_digest_86 (by decide) ?_
  refine g_icmp_ge (tgt := 127) B dX6_digest_88 (by decide) (fun c171 => absurd c171 (by decide)) (fun _ => ?_)
  refine g_iconst (v := (0 : Int32)) B dX6_digest_91 (by decide) ?_
  refine g_istore (lv' := [(0, .ref hm), (1, .long (9049570962721123923 : Int64)), (3, .int (19 : Int32)), (4, .int (0 : Int32))]) B dX6_digest_92 (by decide) [1, 2, 3, 0] rfl ?_
  refine g_iload B dX6_digest_94 3 rfl ?_
  refine g_iconst (v := (3 : Int32)) B dX6_digest_96 (by decide) ?_
  refine g_icmp_ge (tgt := 121) B dX6_digest_97 (by decide) (fun c172 => absurd c172 (by decide)) (fun _ => ?_)
  refine g_lload_n B dX6_digest_100 1 rfl ?_
  refine g_ldc2 (v := (31 : Int64)) B dX6_digest_101 (List.mem_of_getElem? (i := 3) rfl) ?_
  refine g_lmul (v := (3835538738711567373 : Int64)) B dX6_digest_104 (by decide) ?_
  refine g_aload_n B dX6_digest_105 0 rfl ?_
  refine g_iload_n B dX6_digest_106 2 rfl ?_
  refine g_iload B dX6_digest_107 3 rfl ?_
  refine g_callP (g_runV (q0 := 0) (ci := 6) B hK rfl rfl (PM.met (r_ofEdgeNow_n l (D := D) (cI := cI) (cL := cL) (cZ := cZ) hm m1 m2 m3 m4 m5 m7 m9 m10 m11 m12 m13 m15 m16 m17 (0 : Int32) (1 : Int32) (0 : Int32) (19 : Int32) (0 : Int32) (by first | assumption | decide))) (gPp.pre (av := [.ref hm, .int (19 : Int32), .int (0 : Int32)]) (wc := [(hm, .inr (6, [.int (0 : Int32), .ref m1, .ref m2, .ref m3, .ref m4, .ref m5, .int (1 : Int32), .ref m7, .int (0 : Int32), .ref m9, .ref m10, .ref m11, .ref m12, .ref m13, .int (0 : Int32), .ref m15, .ref m16, .ref m17]))]) hK hN [0] rfl (by decide)) gX6_digest_X6_ofEdgeNow rfl rfl kd_X6_ofEdgeNow ⟨by decide, by decide⟩ (st := [.long (3835538738711567373 : Int64)]) rfl (Nat.le_of_ble_eq_true rfl) dX6_digest_109 ⟨by decide, by decide⟩) (fun u hu => ?_)
  refine g_i2l (v := (0 : Int64)) B dX6_digest_112 (by decide) ?_
  refine g_ladd (v := (3835538738711567373 : Int64)) B dX6_digest_113 (by decide) ?_
  refine g_lstore_n (lv' := [(0, .ref hm), (1, .long (3835538738711567373 : Int64)), (3, .int (19 : Int32)), (4, .int (0 : Int32))]) B dX6_digest_114 rfl (by decide) [1, 0, 2, 3] rfl ?_
  refine g_iinc (lv' := [(0, .ref hm), (1, .long (3835538738711567373 : Int64)), (3, .int (19 : Int32)), (4, .int (1 : Int32))]) B dX6_digest_115 3 rfl (by decide) (by decide) [1, 2, 3, 0] rfl ?_
  refine g_goto (tgt := 94) B dX6_digest_118 (by decide) ?_
  refine g_iload B dX6_digest_94 3 rfl ?_
  refine g_iconst (v := (3 : Int32)) B dX6_digest_96 (by decide) ?_
  refine g_icmp_ge (tgt := 121) B dX6_digest_97 (by decide) (fun c174 => absurd c174 (by decide)) (fun _ => ?_)
  refine g_lload_n B dX6_digest_100 1 rfl ?_
  refine g_ldc2 (v := (31 : Int64)) B dX6_digest_101 (List.mem_of_getElem? (i := 3) rfl) ?_
  refine g_lmul (v := (8221236457801278867 : Int64)) B dX6_digest_104 (by decide) ?_
  refine g_aload_n B dX6_digest_105 0 rfl ?_
  refine g_iload_n B dX6_digest_106 2 rfl ?_
  refine g_iload B dX6_digest_107 3 rfl ?_
  refine g_callP (g_runV (q0 := 0) (ci := 6) B hK rfl rfl (PM.met (r_ofEdgeNow_n l (D := D) (cI := cI) (cL := cL) (cZ := cZ) hm m1 m2 m3 m4 m5 m7 m9 m10 m11 m12 m13 m15 m16 m17 (0 : Int32) (1 : Int32) (0 : Int32) (19 : Int32) (1 : Int32) (by first | assumption | decide))) (gPp.pre (av := [.ref hm, .int (19 : Int32), .int (1 : Int32)]) (wc := [(hm, .inr (6, [.int (0 : Int32), .ref m1, .ref m2, .ref m3, .ref m4, .ref m5, .int (1 : Int32), .ref m7, .int (0 : Int32), .ref m9, .ref m10, .ref m11, .ref m12, .ref m13, .int (0 : Int32), .ref m15, .ref m16, .ref m17]))]) hK hN [0] rfl (by decide)) gX6_digest_X6_ofEdgeNow rfl rfl kd_X6_ofEdgeNow ⟨by decide, by decide⟩ (st := [.long (8221236457801278867 : Int64)]) rfl (Nat.le_of_ble_eq_true rfl) dX6_digest_109 ⟨by decide, by decide⟩) (fun u hu => ?_)
  refine g_i2l (v := (0 : Int64)) B dX6_digest_112 (by decide) ?_
  refine g_ladd (v := (8221236457801278867 : Int64)) B dX6_digest_113 (by decide) ?_
  refine g_lstore_n (lv' := [(0, .ref hm), (1, .long (8221236457801278867 : Int64)), (3, .int (19 : Int32)), (4, .int (1 : Int32))]) B dX6_digest_114 rfl (by decide) [1, 0, 2, 3] rfl ?_
  refine g_iinc (lv' := [(0, .ref hm), (1, .long (8221236457801278867 : Int64)), (3, .int (19 : Int32)), (4, .int (2 : Int32))]) B dX6_digest_115 3 rfl (by decide) (by decide) [1, 2, 3, 0] rfl ?_
  refine g_goto (tgt := 94) B dX6_digest_118 (by decide) ?_
  refine g_iload B dX6_digest_94 3 rfl ?_
  refine g_iconst (v := (3 : Int32)) B dX6_digest_96 (by decide) ?_
  refine g_icmp_ge (tgt := 121) B dX6_digest_97 (by decide) (fun c176 => absurd c176 (by decide)) (fun _ => ?_)
  refine g_lload_n B dX6_digest_100 1 rfl ?_
  refine g_ldc2 (v := (31 : Int64)) B dX6_digest_101 (List.mem_of_getElem? (i := 3) rfl) ?_
  refine g_lmul (v := (-3396086840094077747 : Int64)) B dX6_digest_104 (by decide) ?_
  refine g_aload_n B dX6_digest_105 0 rfl ?_
  refine g_iload_n B dX6_digest_106 2 rfl ?_
  refine g_iload B dX6_digest_107 3 rfl ?_
  refine g_callP (g_runV (q0 := 0) (ci := 6) B hK rfl rfl (PM.met (r_ofEdgeNow_2 l (D := D) (cI := cI) (cL := cL) (cZ := cZ) hm m1 m2 m3 m4 m5 m7 m9 m10 m11 m12 m13 m15 m16 m17 (0 : Int32) (1 : Int32) (0 : Int32) (19 : Int32) )) (gPp.pre (av := [.ref hm, .int (19 : Int32), .int (2 : Int32)]) (wc := [(hm, .inr (6, [.int (0 : Int32), .ref m1, .ref m2, .ref m3, .ref m4, .ref m5, .int (1 : Int32), .ref m7, .int (0 : Int32), .ref m9, .ref m10, .ref m11, .ref m12, .ref m13, .int (0 : Int32), .ref m15, .ref m16, .ref m17]))]) hK hN [0] rfl (by decide)) gX6_digest_X6_ofEdgeNow rfl rfl kd_X6_ofEdgeNow ⟨by decide, by decide⟩ (st := [.long (-3396086840094077747 : Int64)]) rfl (Nat.le_of_ble_eq_true rfl) dX6_digest_109 ⟨by decide, by decide⟩) (fun u hu => ?_)
  refine g_i2l (v := (-1 : Int64)) B dX6_digest_112 (by decide) ?_
  refine g_ladd (v := (-3396086840094077748 : Int64)) B dX6_digest_113 (by decide) ?_
  refine g_lstore_n (lv' := [(0, .ref hm), (1, .long (-3396086840094077748 : Int64)), (3, .int (19 : Int32)), (4, .int (2 : Int32))]) B dX6_digest_114 rfl (by decide) [1, 0, 2, 3] rfl ?_
  refine g_iinc (lv' := [(0, .ref hm), (1, .long (-3396086840094077748 : Int64)), (3, .int (19 : Int32)), (4, .int (3 : Int32))]) B dX6_digest_115 3 rfl (by decide) (by decide) [1, 2, 3, 0] rfl ?_
  refine g_goto (tgt := 94) B dX6_digest_118 (by decide) ?_
  refine g_iload B dX6_digest_94 3 rfl ?_
  refine g_iconst (v := (3 : Int32)) B dX6_digest_96 (by decide) ?_
  refine g_icmp_ge (tgt := 121) B dX6_digest_97 (by decide) (fun _ => ?_) (fun c178 => absurd (by decide) c178)
  refine g_iinc (lv' := [(0, .ref hm), (1, .long (-3396086840094077748 : Int64)), (3, .int (20 : Int32)), (4, .int (3 : Int32))]) B dX6_digest_121 2 rfl (by decide) (by decide) [1, 2, 0, 3] rfl ?_
  refine g_goto (tgt := 85) B dX6_digest_124 (by decide) ?_
  refine g_iload_n B dX6_digest_85 2 rfl ?_
  refine g_bipush (v := (24 : Int32)) B dX6_digest_86 (by decide) ?_
  refine g_icmp_ge (tgt := 127) B dX6_digest_88 (by decide) (fun c179 => absurd c179 (by decide)) (fun _ => ?_)
  refine g_iconst (v := (0 : Int32)) B dX6_digest_91 (by decide) ?_
  refine g_istore (lv' := [(0, .ref hm), (1, .long (-3396086840094077748 : Int64)), (3, .int (20 : Int32)), (4, .int (0 : Int32))]) B dX6_digest_92 (by decide) [1, 2, 3, 0] rfl ?_
  refine g_iload B dX6_digest_94 3 rfl ?_
  refine g_iconst (v := (3 : Int32)) B dX6_digest_96 (by decide) ?_
  refine g_icmp_ge (tgt := 121) B dX6_digest_97 (by decide) (fun c180 => absurd c180 (by decide)) (fun _ => ?_)
  refine g_lload_n B dX6_digest_100 1 rfl ?_
  refine g_ldc2 (v := (31 : Int64)) B dX6_digest_101 (List.mem_of_getElem? (i := 3) rfl) ?_
  refine g_lmul (v := (5401772399340899508 : Int64)) B dX6_digest_104 (by decide) ?_
  refine g_aload_n B dX6_digest_105 0 rfl ?_
  refine g_iload_n B dX6_digest_106 2 rfl ?_
  refine g_iload B dX6_digest_107 3 rfl ?_
  refine g_callP (g_runV (q0 := 0) (ci := 6) B hK rfl rfl (PM.met (r_ofEdgeNow_n l (D := D) (cI := cI) (cL := cL) (cZ := cZ) hm m1 m2 m3 m4 m5 m7 m9 m10 m11 m12 m13 m15 m16 m17 (0 : Int32) (1 : Int32) (0 : Int32) (20 : Int32) (0 : Int32) (by first | assumption | decide))) (gPp.pre (av := [.ref hm, .int (20 : Int32), .int (0 : Int32)]) (wc := [(hm, .inr (6, [.int (0 : Int32), .ref m1, .ref m2, .ref m3, .ref m4, .ref m5, .int (1 : Int32), .ref m7, .int (0 : Int32), .ref m9, .ref m10, .ref m11, .ref m12, .ref m13, .int (0 : Int32), .ref m15, .ref m16, .ref m17]))]) hK hN [0] rfl (by decide)) gX6_digest_X6_ofEdgeNow rfl rfl kd_X6_ofEdgeNow ⟨by decide, by decide⟩ (st := [.long (5401772399340899508 : Int64)]) rfl (Nat.le_of_ble_eq_true rfl) dX6_digest_109 ⟨by decide, by decide⟩) (fun u hu => ?_)
  refine g_i2l (v := (0 : Int64)) B dX6_digest_112 (by decide) ?_
  refine g_ladd (v := (5401772399340899508 : Int64)) B dX6_digest_113 (by decide) ?_
  refine g_lstore_n (lv' := [(0, .ref hm), (1, .long (5401772399340899508 : Int64)), (3, .int (20 : Int32)), (4, .int (0 : Int32))]) B dX6_digest_114 rfl (by decide) [1, 0, 2, 3] rfl ?_
  refine g_iinc (lv' := [(0, .ref hm), (1, .long (5401772399340899508 : Int64)), (3, .int (20 : Int32)), (4, .int (1 : Int32))]) B dX6_digest_115 3 rfl (by decide) (by decide) [1, 2, 3, 0] rfl ?_
  refine g_goto (tgt := 94) B dX6_digest_118 (by decide) ?_
  refine g_iload B dX6_digest_94 3 rfl ?_
  refine g_iconst (v := (3 : Int32)) B dX6_digest_96 (by decide) ?_
  refine g_icmp_ge (tgt := 121) B dX6_digest_97 (by decide) (fun c182 => absurd c182 (by decide)) (fun _ => ?_)
  refine g_lload_n B dX6_digest_100 1 rfl ?_
  refine g_ldc2 (v := (31 : Int64)) B dX6_digest_101 (List.mem_of_getElem? (i := 3) rfl) ?_
  refine g_lmul (v := (1434247716181920204 : Int64)) B dX6_digest_104 (by decide) ?_
  refine g_aload_n B dX6_digest_105 0 rfl ?_
  refine g_iload_n B dX6_digest_106 2 rfl ?_
  refine g_iload B dX6_digest_107 3 rfl ?_
  refine g_callP (g_runV (q0 := 0) (ci := 6) B hK rfl rfl (PM.met (r_ofEdgeNow_n l (D := D) (cI := cI) (cL := cL) (cZ := cZ) hm m1 m2 m3 m4 m5 m7 m9 m10 m11 m12 m13 m15 m16 m17 (0 : Int32) (1 : Int32) (0 : Int32) (20 : Int32) (1 : Int32) (by first | assumption | decide))) (gPp.pre (av := [.ref hm, .int (20 : Int32), .int (1 : Int32)]) (wc := [(hm, .inr (6, [.int (0 : Int32), .ref m1, .ref m2, .ref m3, .ref m4, .ref m5, .int (1 : Int32), .ref m7, .int (0 : Int32), .ref m9, .ref m10, .ref m11, .ref m12, .ref m13, .int (0 : Int32), .ref m15, .ref m16, .ref m17]))]) hK hN [0] rfl (by decide)) gX6_digest_X6_ofEdgeNow rfl rfl kd_X6_ofEdgeNow ⟨by decide, by decide⟩ (st := [.long (1434247716181920204 : Int64)]) rfl (Nat.le_of_ble_eq_true rfl) dX6_digest_109 ⟨by decide, by decide⟩) (fun u hu => ?_)
  refine g_i2l (v := (0 : Int64)) B dX6_digest_112 (by decide) ?_
  refine g_ladd (v := (1434247716181920204 : Int64)) B dX6_digest_113 (by decide) ?_
  refine g_lstore_n (lv' := [(0, .ref hm), (1, .long (1434247716181920204 : Int64)), (3, .int (20 : Int32)), (4, .int (1 : Int32))]) B dX6_digest_114 rfl (by decide) [1, 0, 2, 3] rfl ?_
  refine g_iinc (lv' := [(0, .ref hm), (1, .long (1434247716181920204 : Int64)), (3, .int (20 : Int32)), (4, .int (2 : Int32))]) B dX6_digest_115 3 rfl (by decide) (by decide) [1, 2, 3, 0] rfl ?_
  refine g_goto (tgt := 94) B dX6_digest_118 (by decide) ?_
  refine g_iload B dX6_digest_94 3 rfl ?_
  refine g_iconst (v := (3 : Int32)) B dX6_digest_96 (by decide) ?_
  refine g_icmp_ge (tgt := 121) B dX6_digest_97 (by decide) (fun c184 => absurd c184 (by decide)) (fun _ => ?_)
  refine g_lload_n B dX6_digest_100 1 rfl ?_
  refine g_ldc2 (v := (31 : Int64)) B dX6_digest_101 (List.mem_of_getElem? (i := 3) rfl) ?_
  refine g_lmul (v := (7568191054220423092 : Int64)) B dX6_digest_104 (by decide) ?_
  refine g_aload_n B dX6_digest_105 0 rfl ?_
  refine g_iload_n B dX6_digest_106 2 rfl ?_
  refine g_iload B dX6_digest_107 3 rfl ?_
  refine g_callP (g_runV (q0 := 0) (ci := 6) B hK rfl rfl (PM.met (r_ofEdgeNow_2 l (D := D) (cI := cI) (cL := cL) (cZ := cZ) hm m1 m2 m3 m4 m5 m7 m9 m10 m11 m12 m13 m15 m16 m17 (0 : Int32) (1 : Int32) (0 : Int32) (20 : Int32) )) (gPp.pre (av := [.ref hm, .int (20 : Int32), .int (2 : Int32)]) (wc := [(hm, .inr (6, [.int (0 : Int32), .ref m1, .ref m2, .ref m3, .ref m4, .ref m5, .int (1 : Int32), .ref m7, .int (0 : Int32), .ref m9, .ref m10, .ref m11, .ref m12, .ref m13, .int (0 : Int32), .ref m15, .ref m16, .ref m17]))]) hK hN [0] rfl (by decide)) gX6_digest_X6_ofEdgeNow rfl rfl kd_X6_ofEdgeNow ⟨by decide, by decide⟩ (st := [.long (7568191054220423092 : Int64)]) rfl (Nat.le_of_ble_eq_true rfl) dX6_digest_109 ⟨by decide, by decide⟩) (fun u hu => ?_)
  refine g_i2l (v := (-1 : Int64)) B dX6_digest_112 (by decide) ?_
  refine g_ladd (v := (7568191054220423091 : Int64)) B dX6_digest_113 (by decide) ?_
  refine g_lstore_n (lv' := [(0, .ref hm), (1, .long (7568191054220423091 : Int64)), (3, .int (20 : Int32)), (4, .int (2 : Int32))]) B dX6_digest_114 rfl (by decide) [1, 0, 2, 3] rfl ?_
  refine g_iinc (lv' := [(0, .ref hm), (1, .long (7568191054220423091 : Int64)), (3, .int (20 : Int32)), (4, .int (3 : Int32))]) B dX6_digest_115 3 rfl (by decide) (by decide) [1, 2, 3, 0] rfl ?_
  refine g_goto (tgt := 94) B dX6_digest_118 (by decide) ?_
  refine g_iload B dX6_digest_94 3 rfl ?_
  refine g_iconst (v := (3 : Int32)) B dX6_digest_96 (by decide) ?_
  refine g_icmp_ge (tgt := 121) B dX6_digest_97 (by decide) (fun _ => ?_) (fun c186 => absurd (by decide) c186)
  refine g_iinc (lv' := [(0, .ref hm), (1, .long (7568191054220423091 : Int64)), (3, .int (21 : Int32)), (4, .int (3 : Int32))]) B dX6_digest_121 2 rfl (by decide) (by decide) [1, 2, 0, 3] rfl ?_
  refine g_goto (tgt := 85) B dX6_digest_124 (by decide) ?_
  refine g_iload_n B dX6_digest_85 2 rfl ?_
  refine g_bipush (v := (24 : Int32)) B dX6_digest_86 (by decide) ?_
  refine g_icmp_ge (tgt := 127) B dX6_digest_88 (by decide) (fun c187 => absurd c187 (by decide)) (fun _ => ?_)
  refine g_iconst (v := (0 : Int32)) B dX6_digest_91 (by decide) ?_
  refine g_istore (lv' := [(0, .ref hm), (1, .long (7568191054220423091 : Int64)), (3, .int (21 : Int32)), (4, .int (0 : Int32))]) B dX6_digest_92 (by decide) [1, 2, 3, 0] rfl ?_
  refine g_iload B dX6_digest_94 3 rfl ?_
  refine g_iconst (v := (3 : Int32)) B dX6_digest_96 (by decide) ?_
  refine g_icmp_ge (tgt := 121) B dX6_digest_97 (by decide) (fun c188 => absurd c188 (by decide)) (fun _ => ?_)
  refine g_lload_n B dX6_digest_100 1 rfl ?_
  refine g_ldc2 (v := (31 : Int64)) B dX6_digest_101 (List.mem_of_getElem? (i := 3) rfl) ?_
  refine g_lmul (v := (-5193750277391055187 : Int64)) B dX6_digest_104 (by decide) ?_
  refine g_aload_n B dX6_digest_105 0 rfl ?_
  refine g_iload_n B dX6_digest_106 2 rfl ?_
  refine g_iload B dX6_digest_107 3 rfl ?_
  refine g_callP (g_runV (q0 := 0) (ci := 6) B hK rfl rfl (PM.met (r_ofEdgeNow_n l (D := D) (cI := cI) (cL := cL) (cZ := cZ) hm m1 m2 m3 m4 m5 m7 m9 m10 m11 m12 m13 m15 m16 m17 (0 : Int32) (1 : Int32) (0 : Int32) (21 : Int32) (0 : Int32) (by first | assumption | decide))) (gPp.pre (av := [.ref hm, .int (21 : Int32), .int (0 : Int32)]) (wc := [(hm, .inr (6, [.int (0 : Int32), .ref m1, .ref m2, .ref m3, .ref m4, .ref m5, .int (1 : Int32), .ref m7, .int (0 : Int32), .ref m9, .ref m10, .ref m11, .ref m12, .ref m13, .int (0 : Int32), .ref m15, .ref m16, .ref m17]))]) hK hN [0] rfl (by decide)) gX6_digest_X6_ofEdgeNow rfl rfl kd_X6_ofEdgeNow ⟨by decide, by decide⟩ (st := [.long (-5193750277391055187 : Int64)]) rfl (Nat.le_of_ble_eq_true rfl) dX6_digest_109 ⟨by decide, by decide⟩) (fun u hu => ?_)
  refine g_i2l (v := (0 : Int64)) B dX6_digest_112 (by decide) ?_
  refine g_ladd (v := (-5193750277391055187 : Int64)) B dX6_digest_113 (by decide) ?_
  refine g_lstore_n (lv' := [(0, .ref hm), (1, .long (-5193750277391055187 : Int64)), (3, .int (21 : Int32)), (4, .int (0 : Int32))]) B dX6_digest_114 rfl (by decide) [1, 0, 2, 3] rfl ?_
  refine g_iinc (lv' := [(0, .ref hm), (1, .long (-5193750277391055187 : Int64)), (3, .int (21 : Int32)), (4, .int (1 : Int32))]) B dX6_digest_115 3 rfl (by decide) (by decide) [1, 2, 3, 0] rfl ?_
  refine g_goto (tgt := 94) B dX6_digest_118 (by decide) ?_
  refine g_iload B dX6_digest_94 3 rfl ?_
  refine g_iconst (v := (3 : Int32)) B dX6_digest_96 (by decide) ?_
  refine g_icmp_ge (tgt := 121) B dX6_digest_97 (by decide) (fun c190 => absurd c190 (by decide)) (fun _ => ?_)
  refine g_lload_n B dX6_digest_100 1 rfl ?_
  refine g_ldc2 (v := (31 : Int64)) B dX6_digest_101 (List.mem_of_getElem? (i := 3) rfl) ?_
  refine g_lmul (v := (5014438064263253747 : Int64)) B dX6_digest_104 (by decide) ?_
  refine g_aload_n B dX6_digest_105 0 rfl ?_
  refine g_iload_n B dX6_digest_106 2 rfl ?_
  refine g_iload B dX6_digest_107 3 rfl ?_
  refine g_callP (g_runV (q0 := 0) (ci := 6) B hK rfl rfl (PM.met (r_ofEdgeNow_n l (D := D) (cI := cI) (cL := cL) (cZ := cZ) hm m1 m2 m3 m4 m5 m7 m9 m10 m11 m12 m13 m15 m16 m17 (0 : Int32) (1 : Int32) (0 : Int32) (21 : Int32) (1 : Int32) (by first | assumption | decide))) (gPp.pre (av := [.ref hm, .int (21 : Int32), .int (1 : Int32)]) (wc := [(hm, .inr (6, [.int (0 : Int32), .ref m1, .ref m2, .ref m3, .ref m4, .ref m5, .int (1 : Int32), .ref m7, .int (0 : Int32), .ref m9, .ref m10, .ref m11, .ref m12, .ref m13, .int (0 : Int32), .ref m15, .ref m16, .ref m17]))]) hK hN [0] rfl (by decide)) gX6_digest_X6_ofEdgeNow rfl rfl kd_X6_ofEdgeNow ⟨by decide, by decide⟩ (st := [.long (5014438064263253747 : Int64)]) rfl (Nat.le_of_ble_eq_true rfl) dX6_digest_109 ⟨by decide, by decide⟩) (fun u hu => ?_)
  refine g_i2l (v := (0 : Int64)) B dX6_digest_112 (by decide) ?_
  refine g_ladd (v := (5014438064263253747 : Int64)) B dX6_digest_113 (by decide) ?_
  refine g_lstore_n (lv' := [(0, .ref hm), (1, .long (5014438064263253747 : Int64)), (3, .int (21 : Int32)), (4, .int (1 : Int32))]) B dX6_digest_114 rfl (by decide) [1, 0, 2, 3] rfl ?_
  refine g_iinc (lv' := [(0, .ref hm), (1, .long (5014438064263253747 : Int64)), (3, .int (21 : Int32)), (4, .int (2 : Int32))]) B dX6_digest_115 3 rfl (by decide) (by decide) [1, 2, 3, 0] rfl ?_
  refine g_goto (tgt := 94) B dX6_digest_118 (by decide) ?_
  refine g_iload B dX6_digest_94 3 rfl ?_
  refine g_iconst (v := (3 : Int32)) B dX6_digest_96 (by decide) ?_
  refine g_icmp_ge (tgt := 121) B dX6_digest_97 (by decide) (fun c192 => absurd c192 (by decide)) (fun _ => ?_)
  refine g_lload_n B dX6_digest_100 1 rfl ?_
  refine g_ldc2 (v := (31 : Int64)) B dX6_digest_101 (List.mem_of_getElem? (i := 3) rfl) ?_
  refine g_lmul (v := (7873627402484453229 : Int64)) B dX6_digest_104 (by decide) ?_
  refine g_aload_n B dX6_digest_105 0 rfl ?_
  refine g_iload_n B dX6_digest_106 2 rfl ?_
  refine g_iload B dX6_digest_107 3 rfl ?_
  refine g_callP (g_runV (q0 := 0) (ci := 6) B hK rfl rfl (PM.met (r_ofEdgeNow_2 l (D := D) (cI := cI) (cL := cL) (cZ := cZ) hm m1 m2 m3 m4 m5 m7 m9 m10 m11 m12 m13 m15 m16 m17 (0 : Int32) (1 : Int32) (0 : Int32) (21 : Int32) )) (gPp.pre (av := [.ref hm, .int (21 : Int32), .int (2 : Int32)]) (wc := [(hm, .inr (6, [.int (0 : Int32), .ref m1, .ref m2, .ref m3, .ref m4, .ref m5, .int (1 : Int32), .ref m7, .int (0 : Int32), .ref m9, .ref m10, .ref m11, .ref m12, .ref m13, .int (0 : Int32), .ref m15, .ref m16, .ref m17]))]) hK hN [0] rfl (by decide)) gX6_digest_X6_ofEdgeNow rfl rfl kd_X6_ofEdgeNow ⟨by decide, by decide⟩ (st := [.long (7873627402484453229 : Int64)]) rfl (Nat.le_of_ble_eq_true rfl) dX6_digest_109 ⟨by decide, by decide⟩) (fun u hu => ?_)
  refine g_i2l (v := (-1 : Int64)) B dX6_digest_112 (by decide) ?_
  refine g_ladd (v := (7873627402484453228 : Int64)) B dX6_digest_113 (by decide) ?_
  refine g_lstore_n (lv' := [(0, .ref hm), (1, .long (7873627402484453228 : Int64)), (3, .int (21 : Int32)), (4, .int (2 : Int32))]) B dX6_digest_114 rfl (by decide) [1, 0, 2, 3] rfl ?_
  refine g_iinc (lv' := [(0, .ref hm), (1, .long (7873627402484453228 : Int64)), (3, .int (21 : Int32)), (4, .int (3 : Int32))]) B dX6_digest_115 3 rfl (by decide) (by decide) [1, 2, 3, 0] rfl ?_
  refine g_goto (tgt := 94) B dX6_digest_118 (by decide) ?_
  refine g_iload B dX6_digest_94 3 rfl ?_
  refine g_iconst (v := (3 : Int32)) B dX6_digest_96 (by decide) ?_
  refine g_icmp_ge (tgt := 121) B dX6_digest_97 (by decide) (fun _ => ?_) (fun c194 => absurd (by decide) c194)
  refine g_iinc (lv' := [(0, .ref hm), (1, .long (7873627402484453228 : Int64)), (3, .int (22 : Int32)), (4, .int (3 : Int32))]) B dX6_digest_121 2 rfl (by decide) (by decide) [1, 2, 0, 3] rfl ?_
  refine g_goto (tgt := 85) B dX6_digest_124 (by decide) ?_
  refine g_iload_n B dX6_digest_85 2 rfl ?_
  refine g_bipush (v := (24 : Int32)) B dX6_digest_86 (by decide) ?_
  refine g_icmp_ge (tgt := 127) B dX6_digest_88 (by decide) (fun c195 => absurd c195 (by decide)) (fun _ => ?_)
  refine g_iconst (v := (0 : Int32)) B dX6_digest_91 (by decide) ?_
  refine g_istore (lv' := [(0, .ref hm), (1, .long (7873627402484453228 : Int64)), (3, .int (22 : Int32)), (4, .int (0 : Int32))]) B dX6_digest_92 (by decide) [1, 2, 3, 0] rfl ?_
  refine g_iload B dX6_digest_94 3 rfl ?_
  refine g_iconst (v := (3 : Int32)) B dX6_digest_96 (by decide) ?_
  refine g_icmp_ge (tgt := 121) B dX6_digest_97 (by decide) (fun c196 => absurd c196 (by decide)) (fun _ => ?_)
  refine g_lload_n B dX6_digest_100 1 rfl ?_
  refine g_ldc2 (v := (31 : Int64)) B dX6_digest_101 (List.mem_of_getElem? (i := 3) rfl) ?_
  refine g_lmul (v := (4274776518793879060 : Int64)) B dX6_digest_104 (by decide) ?_
  refine g_aload_n B dX6_digest_105 0 rfl ?_
  refine g_iload_n B dX6_digest_106 2 rfl ?_
  refine g_iload B dX6_digest_107 3 rfl ?_
  refine g_callP (g_runV (q0 := 0) (ci := 6) B hK rfl rfl (PM.met (r_ofEdgeNow_n l (D := D) (cI := cI) (cL := cL) (cZ := cZ) hm m1 m2 m3 m4 m5 m7 m9 m10 m11 m12 m13 m15 m16 m17 (0 : Int32) (1 : Int32) (0 : Int32) (22 : Int32) (0 : Int32) (by first | assumption | decide))) (gPp.pre (av := [.ref hm, .int (22 : Int32), .int (0 : Int32)]) (wc := [(hm, .inr (6, [.int (0 : Int32), .ref m1, .ref m2, .ref m3, .ref m4, .ref m5, .int (1 : Int32), .ref m7, .int (0 : Int32), .ref m9, .ref m10, .ref m11, .ref m12, .ref m13, .int (0 : Int32), .ref m15, .ref m16, .ref m17]))]) hK hN [0] rfl (by decide)) gX6_digest_X6_ofEdgeNow rfl rfl kd_X6_ofEdgeNow ⟨by decide, by decide⟩ (st := [.long (4274776518793879060 : Int64)]) rfl (Nat.le_of_ble_eq_true rfl) dX6_digest_109 ⟨by decide, by decide⟩) (fun u hu => ?_)
  refine g_i2l (v := (0 : Int64)) B dX6_digest_112 (by decide) ?_
  refine g_ladd (v := (4274776518793879060 : Int64)) B dX6_digest_113 (by decide) ?_
  refine g_lstore_n (lv' := [(0, .ref hm), (1, .long (4274776518793879060 : Int64)), (3, .int (22 : Int32)), (4, .int (0 : Int32))]) B dX6_digest_114 rfl (by decide) [1, 0, 2, 3] rfl ?_
  refine g_iinc (lv' := [(0, .ref hm), (1, .long (4274776518793879060 : Int64)), (3, .int (22 : Int32)), (4, .int (1 : Int32))]) B dX6_digest_115 3 rfl (by decide) (by decide) [1, 2, 3, 0] rfl ?_
  refine g_goto (tgt := 94) B dX6_digest_118 (by decide) ?_
  refine g_iload B dX6_digest_94 3 rfl ?_
  refine g_iconst (v := (3 : Int32)) B dX6_digest_96 (by decide) ?_
  refine g_icmp_ge (tgt := 121) B dX6_digest_97 (by decide) (fun c198 => absurd c198 (by decide)) (fun _ => ?_)
  refine g_lload_n B dX6_digest_100 1 rfl ?_
  refine g_ldc2 (v := (31 : Int64)) B dX6_digest_101 (List.mem_of_getElem? (i := 3) rfl) ?_
  refine g_lmul (v := (3390863566643389548 : Int64)) B dX6_digest_104 (by decide) ?_
  refine g_aload_n B dX6_digest_105 0 rfl ?_
  refine g_iload_n B dX6_digest_106 2 rfl ?_
  refine g_iload B dX6_digest_107 3 rfl ?_
  refine g_callP (g_runV (q0 := 0) (ci := 6) B hK rfl rfl (PM.met (r_ofEdgeNow_n l (D := D) (cI := cI) (cL := cL) (cZ := cZ) hm m1 m2 m3 m4 m5 m7 m9 m10 m11 m12 m13 m15 m16 m17 (0 : Int32) (1 : Int32) (0 : Int32) (22 : Int32) (1 : Int32) (by first | assumption | decide))) (gPp.pre (av := [.ref hm, .int (22 : Int32), .int (1 : Int32)]) (wc := [(hm, .inr (6, [.int (0 : Int32), .ref m1, .ref m2, .ref m3, .ref m4, .ref m5, .int (1 : Int32), .ref m7, .int (0 : Int32), .ref m9, .ref m10, .ref m11, .ref m12, .ref m13, .int (0 : Int32), .ref m15, .ref m16, .ref m17]))]) hK hN [0] rfl (by decide)) gX6_digest_X6_ofEdgeNow rfl rfl kd_X6_ofEdgeNow ⟨by decide, by decide⟩ (st := [.long (3390863566643389548 : Int64)]) rfl (Nat.le_of_ble_eq_true rfl) dX6_digest_109 ⟨by decide, by decide⟩) (fun u hu => ?_)
  refine g_i2l (v := (0 : Int64)) B dX6_digest_112 (by decide) ?_
  refine g_ladd (v := (3390863566643389548 : Int64)) B dX6_digest_113 (by decide) ?_
  refine g_lstore_n (lv' := [(0, .ref hm), (1, .long (3390863566643389548 : Int64)), (3, .int (22 : Int32)), (4, .int (1 : Int32))]) B dX6_digest_114 rfl (by decide) [1, 0, 2, 3] rfl ?_
  refine g_iinc (lv' := [(0, .ref hm), (1, .long (3390863566643389548 : Int64)), (3, .int (22 : Int32)), (4, .int (2 : Int32))]) B dX6_digest_115 3 rfl (by decide) (by decide) [1, 2, 3, 0] rfl ?_
  refine g_goto (tgt := 94) B dX6_digest_118 (by decide) ?_
  refine g_iload B dX6_digest_94 3 rfl ?_
  refine g_iconst (v := (3 : Int32)) B dX6_digest_96 (by decide) ?_
  refine g_icmp_ge (tgt := 121) B dX6_digest_97 (by decide) (fun c200 => absurd c200 (by decide)) (fun _ => ?_)
  refine g_lload_n B dX6_digest_100 1 rfl ?_
  refine g_ldc2 (v := (31 : Int64)) B dX6_digest_101 (List.mem_of_getElem? (i := 3) rfl) ?_
  refine g_lmul (v := (-5563693876312233708 : Int64)) B dX6_digest_104 (by decide) ?_
  refine g_aload_n B dX6_digest_105 0 rfl ?_
  refine g_iload_n B dX6_digest_106 2 rfl ?_
  refine g_iload B dX6_digest_107 3 rfl ?_
  refine g_callP (g_runV (q0 := 0) (ci := 6) B hK rfl rfl (PM.met (r_ofEdgeNow_2 l (D := D) (cI := cI) (cL := cL) (cZ := cZ) hm m1 m2 m3 m4 m5 m7 m9 m10 m11 m12 m13 m15 m16 m17 (0 : Int32) (1 : Int32) (0 : Int32) (22 : Int32) )) (gPp.pre (av := [.ref hm, .int (22 : Int32), .int (2 : Int32)]) (wc := [(hm, .inr (6, [.int (0 : Int32), .ref m1, .ref m2, .ref m3, .ref m4, .ref m5, .int (1 : Int32), .ref m7, .int (0 : Int32), .ref m9, .ref m10, .ref m11, .ref m12, .ref m13, .int (0 : Int32), .ref m15, .ref m16, .ref m17]))]) hK hN [0] rfl (by decide)) gX6_digest_X6_ofEdgeNow rfl rfl kd_X6_ofEdgeNow ⟨by decide, by decide⟩ (st := [.long (-5563693876312233708 : Int64)]) rfl (Nat.le_of_ble_eq_true rfl) dX6_digest_109 ⟨by decide, by decide⟩) (fun u hu => ?_)
  refine g_i2l (v := (-1 : Int64)) B dX6_digest_112 (by decide) ?_
  refine g_ladd (v := (-5563693876312233709 : Int64)) B dX6_digest_113 (by decide) ?_
  refine g_lstore_n (lv' := [(0, .ref hm), (1, .long (-5563693876312233709 : Int64)), (3, .int (22 : Int32)), (4, .int (2 : Int32))]) B dX6_digest_114 rfl (by decide) [1, 0, 2, 3] rfl ?_
  refine g_iinc (lv' := [(0, .ref hm), (1, .long (-5563693876312233709 : Int64)), (3, .int (22 : Int32)), (4, .int (3 : Int32))]) B dX6_digest_115 3 rfl (by decide) (by decide) [1, 2, 3, 0] rfl ?_
  refine g_goto (tgt := 94) B dX6_digest_118 (by decide) ?_
  refine g_iload B dX6_digest_94 3 rfl ?_
  refine g_iconst (v := (3 : Int32)) B dX6_digest_96 (by decide) ?_
  refine g_icmp_ge (tgt := 121) B dX6_digest_97 (by decide) (fun _ => ?_) (fun c202 => absurd (by decide) c202)
  refine g_iinc (lv' := [(0, .ref hm), (1, .long (-5563693876312233709 : Int64)), (3, .int (23 : Int32)), (4, .int (3 : Int32))]) B dX6_digest_121 2 rfl (by decide) (by decide) [1, 2, 0, 3] rfl ?_
  refine g_goto (tgt := 85) B dX6_digest_124 (by decide) ?_
  refine g_iload_n B dX6_digest_85 2 rfl ?_
  refine g_bipush (v := (24 : Int32)) B dX6_digest_86 (by decide) ?_
  refine g_icmp_ge (tgt := 127) B dX6_digest_88 (by decide) (fun c203 => absurd c203 (by decide)) (fun _ => ?_)
  refine g_iconst (v := (0 : Int32)) B dX6_digest_91 (by decide) ?_
  refine g_istore (lv' := [(0, .ref hm), (1, .long (-5563693876312233709 : Int64)), (3, .int (23 : Int32)), (4, .int (0 : Int32))]) B dX6_digest_92 (by decide) [1, 2, 3, 0] rfl ?_
  refine g_iload B dX6_digest_94 3 rfl ?_
  refine g_iconst (v := (3 : Int32)) B dX6_digest_96 (by decide) ?_
  refine g_icmp_ge (tgt := 121) B dX6_digest_97 (by decide) (fun c204 => absurd c204 (by decide)) (fun _ => ?_)
  refine g_lload_n B dX6_digest_100 1 rfl ?_
  refine g_ldc2 (v := (31 : Int64)) B dX6_digest_101 (List.mem_of_getElem? (i := 3) rfl) ?_
  refine g_lmul (v := (-6453813502293280435 : Int64)) B dX6_digest_104 (by decide) ?_
  refine g_aload_n B dX6_digest_105 0 rfl ?_
  refine g_iload_n B dX6_digest_106 2 rfl ?_
  refine g_iload B dX6_digest_107 3 rfl ?_
  refine g_callP (g_runV (q0 := 0) (ci := 6) B hK rfl rfl (PM.met (r_ofEdgeNow_n l (D := D) (cI := cI) (cL := cL) (cZ := cZ) hm m1 m2 m3 m4 m5 m7 m9 m10 m11 m12 m13 m15 m16 m17 (0 : Int32) (1 : Int32) (0 : Int32) (23 : Int32) (0 : Int32) (by first | assumption | decide))) (gPp.pre (av := [.ref hm, .int (23 : Int32), .int (0 : Int32)]) (wc := [(hm, .inr (6, [.int (0 : Int32), .ref m1, .ref m2, .ref m3, .ref m4, .ref m5, .int (1 : Int32), .ref m7, .int (0 : Int32), .ref m9, .ref m10, .ref m11, .ref m12, .ref m13, .int (0 : Int32), .ref m15, .ref m16, .ref m17]))]) hK hN [0] rfl (by decide)) gX6_digest_X6_ofEdgeNow rfl rfl kd_X6_ofEdgeNow ⟨by decide, by decide⟩ (st := [.long (-6453813502293280435 : Int64)]) rfl (Nat.le_of_ble_eq_true rfl) dX6_digest_109 ⟨by decide, by decide⟩) (fun u hu => ?_)
  refine g_i2l (v := (0 : Int64)) B dX6_digest_112 (by decide) ?_
  refine g_ladd (v := (-6453813502293280435 : Int64)) B dX6_digest_113 (by decide) ?_
  refine g_lstore_n (lv' := [(0, .ref hm), (1, .long (-6453813502293280435 : Int64)), (3, .int (23 : Int32)), (4, .int (0 : Int32))]) B dX6_digest_114 rfl (by decide) [1, 0, 2, 3] rfl ?_
  refine g_iinc (lv' := [(0, .ref hm), (1, .long (-6453813502293280435 : Int64)), (3, .int (23 : Int32)), (4, .int (1 : Int32))]) B dX6_digest_115 3 rfl (by decide) (by decide) [1, 2, 3, 0] rfl ?_
  refine g_goto (tgt := 94) B dX6_digest_118 (by decide) ?_
  refine g_iload B dX6_digest_94 3 rfl ?_
  refine g_iconst (v := (3 : Int32)) B dX6_digest_96 (by decide) ?_
  refine g_icmp_ge (tgt := 121) B dX6_digest_97 (by decide) (fun c206 => absurd c206 (by decide)) (fun _ => ?_)
  refine g_lload_n B dX6_digest_100 1 rfl ?_
  refine g_ldc2 (v := (31 : Int64)) B dX6_digest_101 (List.mem_of_getElem? (i := 3) rfl) ?_
  refine g_lmul (v := (2845966239713374291 : Int64)) B dX6_digest_104 (by decide) ?_
  refine g_aload_n B dX6_digest_105 0 rfl ?_
  refine g_iload_n B dX6_digest_106 2 rfl ?_
  refine g_iload B dX6_digest_107 3 rfl ?_
  refine g_callP (g_runV (q0 := 0) (ci := 6) B hK rfl rfl (PM.met (r_ofEdgeNow_n l (D := D) (cI := cI) (cL := cL) (cZ := cZ) hm m1 m2 m3 m4 m5 m7 m9 m10 m11 m12 m13 m15 m16 m17 (0 : Int32) (1 : Int32) (0 : Int32) (23 : Int32) (1 : Int32) (by first | assumption | decide))) (gPp.pre (av := [.ref hm, .int (23 : Int32), .int (1 : Int32)]) (wc := [(hm, .inr (6, [.int (0 : Int32), .ref m1, .ref m2, .ref m3, .ref m4, .ref m5, .int (1 : Int32), .ref m7, .int (0 : Int32), .ref m9, .ref m10, .ref m11, .ref m12, .ref m13, .int (0 : Int32), .ref m15, .ref m16, .ref m17]))]) hK hN [0] rfl (by decide)) gX6_digest_X6_ofEdgeNow rfl rfl kd_X6_ofEdgeNow ⟨by decide, by decide⟩ (st := [.long (2845966239713374291 : Int64)]) rfl (Nat.le_of_ble_eq_true rfl) dX6_digest_109 ⟨by decide, by decide⟩) (fun u hu => ?_)
  refine g_i2l (v := (0 : Int64)) B dX6_digest_112 (by decide) ?_
  refine g_ladd (v := (2845966239713374291 : Int64)) B dX6_digest_113 (by decide) ?_
  refine g_lstore_n (lv' := [(0, .ref hm), (1, .long (2845966239713374291 : Int64)), (3, .int (23 : Int32)), (4, .int (1 : Int32))]) B dX6_digest_114 rfl (by decide) [1, 0, 2, 3] rfl ?_
  refine g_iinc (lv' := [(0, .ref hm), (1, .long (2845966239713374291 : Int64)), (3, .int (23 : Int32)), (4, .int (2 : Int32))]) B dX6_digest_115 3 rfl (by decide) (by decide) [1, 2, 3, 0] rfl ?_
  refine g_goto (tgt := 94) B dX6_digest_118 (by decide) ?_
  refine g_iload B dX6_digest_94 3 rfl ?_
  refine g_iconst (v := (3 : Int32)) B dX6_digest_96 (by decide) ?_
  refine g_icmp_ge (tgt := 121) B dX6_digest_97 (by decide) (fun c208 => absurd c208 (by decide)) (fun _ => ?_)
  refine g_lload_n B dX6_digest_100 1 rfl ?_
  refine g_ldc2 (v := (31 : Int64)) B dX6_digest_101 (List.mem_of_getElem? (i := 3) rfl) ?_
  refine g_lmul (v := (-4008766937433155059 : Int64)) B dX6_digest_104 (by decide) ?_
  refine g_aload_n B dX6_digest_105 0 rfl ?_
  refine g_iload_n B dX6_digest_106 2 rfl ?_
  refine g_iload B dX6_digest_107 3 rfl ?_
  refine g_callP (g_runV (q0 := 0) (ci := 6) B hK rfl rfl (PM.met (r_ofEdgeNow_2 l (D := D) (cI := cI) (cL := cL) (cZ := cZ) hm m1 m2 m3 m4 m5 m7 m9 m10 m11 m12 m13 m15 m16 m17 (0 : Int32) (1 : Int32) (0 : Int32) (23 : Int32) )) (gPp.pre (av := [.ref hm, .int (23 : Int32), .int (2 : Int32)]) (wc := [(hm, .inr (6, [.int (0 : Int32), .ref m1, .ref m2, .ref m3, .ref m4, .ref m5, .int (1 : Int32), .ref m7, .int (0 : Int32), .ref m9, .ref m10, .ref m11, .ref m12, .ref m13, .int (0 : Int32), .ref m15, .ref m16, .ref m17]))]) hK hN [0] rfl (by decide)) gX6_digest_X6_ofEdgeNow rfl rfl kd_X6_ofEdgeNow ⟨by decide, by decide⟩ (st := [.long (-4008766937433155059 : Int64)]) rfl (Nat.le_of_ble_eq_true rfl) dX6_digest_109 ⟨by decide, by decide⟩) (fun u hu => ?_)
  refine g_i2l (v := (-1 : Int64)) B dX6_digest_112 (by decide) ?_
  refine g_ladd (v := (-4008766937433155060 : Int64)) B dX6_digest_113 (by decide) ?_
  refine g_lstore_n (lv' := [(0, .ref hm), (1, .long (-4008766937433155060 : Int64)), (3, .int (23 : Int32)), (4, .int (2 : Int32))]) B dX6_digest_114 rfl (by decide) [1, 0, 2, 3] rfl ?_
  refine g_iinc (lv' := [(0, .ref hm), (1, .long (-4008766937433155060 : Int64)), (3, .int (23 : Int32)), (4, .int (3 : Int32))]) B dX6_digest_115 3 rfl (by decide) (by decide) [1, 2, 3, 0] rfl ?_
  refine g_goto (tgt := 94) B dX6_digest_118 (by decide) ?_
  refine g_iload B dX6_digest_94 3 rfl ?_
  refine g_iconst (v := (3 : Int32)) B dX6_digest_96 (by decide) ?_
  refine g_icmp_ge (tgt := 121) B dX6_digest_97 (by decide) (fun _ => ?_) (fun c210 => absurd (by decide) c210)
  refine g_iinc (lv' := [(0, .ref hm), (1, .long (-4008766937433155060 : Int64)), (3, .int (24 : Int32)), (4, .int (3 : Int32))]) B dX6_digest_121 2 rfl (by decide) (by decide) [1, 2, 0, 3] rfl ?_
  refine g_goto (tgt := 85) B dX6_digest_124 (by decide) ?_
  refine g_iload_n B dX6_digest_85 2 rfl ?_
  refine g_bipush (v := (24 : Int32)) B dX6_digest_86 (by decide) ?_
  refine g_icmp_ge (tgt := 127) B dX6_digest_88 (by decide) (fun _ => ?_) (fun c211 => absurd (by decide) c211)
  refine g_iconst (v := (0 : Int32)) B dX6_digest_127 (by decide) ?_
  refine g_istore_n (lv' := [(0, .ref hm), (1, .long (-4008766937433155060 : Int64)), (3, .int (0 : Int32)), (4, .int (3 : Int32))]) B dX6_digest_128 rfl (by decide) [1, 2, 0, 3] rfl ?_
  refine g_iload_n B dX6_digest_129 2 rfl ?_
  refine g_aload_n B dX6_digest_130 0 rfl ?_
  refine g_get (C := RX6) (T := TX6) (N := 18) (ci := 6) B hK hin_X6_digest_RX6 0 rfl rfl 14 (by decide) (List.mem_of_getElem? (i := 5) rfl) rfl (v := .int (0 : Int32)) rfl dX6_digest_131 ?_
  refine g_icmp_ge (tgt := 156) B dX6_digest_134 (by decide) (fun _ => ?_) (fun c212 => absurd (by decide) c212)
  refine g_lload_n B dX6_digest_156 1 rfl ?_
  refine g_ldc2 (v := (31 : Int64)) B dX6_digest_157 (List.mem_of_getElem? (i := 3) rfl) ?_
  refine g_lmul (v := (4855433455539054452 : Int64)) B dX6_digest_160 (by decide) ?_
  refine g_aload_n B dX6_digest_161 0 rfl ?_
  refine g_callP (g_runV (q0 := 0) (ci := 6) B hK rfl rfl (PM.met (r_fewestNow l (D := D) (cI := cI) (cL := cL) (cZ := cZ) hm m1 m2 m3 m4 m5 m7 m9 m10 m11 m12 m13 m15 m16 m17 (0 : Int32) (1 : Int32) (0 : Int32) )) (gPp.pre (av := [.ref hm]) (wc := [(hm, .inr (6, [.int (0 : Int32), .ref m1, .ref m2, .ref m3, .ref m4, .ref m5, .int (1 : Int32), .ref m7, .int (0 : Int32), .ref m9, .ref m10, .ref m11, .ref m12, .ref m13, .int (0 : Int32), .ref m15, .ref m16, .ref m17]))]) hK hN [0] rfl (by decide)) gX6_digest_X6_fewestNow rfl rfl kd_X6_fewestNow ⟨by decide, by decide⟩ (st := [.long (4855433455539054452 : Int64)]) rfl (Nat.le_of_ble_eq_true rfl) dX6_digest_162 ⟨by decide, by decide⟩) (fun u hu => ?_)
  refine g_i2l (v := (0 : Int64)) B dX6_digest_165 (by decide) ?_
  refine g_ladd (v := (4855433455539054452 : Int64)) B dX6_digest_166 (by decide) ?_
  refine g_ldc2 (v := (31 : Int64)) B dX6_digest_167 (List.mem_of_getElem? (i := 3) rfl) ?_
  refine g_lmul (v := (2944484532034275084 : Int64)) B dX6_digest_170 (by decide) ?_
  refine g_aload_n B dX6_digest_171 0 rfl ?_
  refine g_iconst (v := (5 : Int32)) B dX6_digest_172 (by decide) ?_
  refine g_callW (w2 := (fun (_ : Unit) => [(hm, .inr (6, [.int (0 : Int32), .ref m1, .ref m2, .ref m3, .ref m4, .ref m5, .int (1 : Int32), .ref m7, .int (0 : Int32), .ref m9, .ref m10, .ref m11, .ref m12, .ref m13, .int (0 : Int32), .ref m15, .ref m16, .ref m17])), (m1, .inl (cI, 12, .inl (fun _ => (0 : Int32)))), (m2, .inl (cI, 12, .inl (fun _ => (0 : Int32)))), (m3, .inl (cI, 12, .inl (fun _ => (0 : Int32)))), (m4, .inl (cI, 24, .inl (fun _ => (-1 : Int32)))), (m5, .inl (cZ, 12, .inl (fun _ => (0 : Int32)))), (m7, .inl (cI, 12, .inl (fun _ => (1 : Int32)))), (m13, .inl (cZ, 40, .inl (fun _ => (0 : Int32))))])) (g_runV (q0 := 0) (ci := 6) B hK rfl rfl (r_aheadNow_n l (D := D) (cI := cI) (cL := cL) (cZ := cZ) hm m1 m2 m3 m4 m5 m7 m9 m10 m11 m12 m13 m15 m16 m17 (0 : Int32) (0 : Int32) 1 5 (by omega) (by omega) (by omega)) (gPw.pre (av := [.ref hm, .int (5 : Int32)]) (wc := [(hm, .inr (6, [.int (0 : Int32), .ref m1, .ref m2, .ref m3, .ref m4, .ref m5, .int (1 : Int32), .ref m7, .int (0 : Int32), .ref m9, .ref m10, .ref m11, .ref m12, .ref m13, .int (0 : Int32), .ref m15, .ref m16, .ref m17])), (m1, .inl (cI, 12, .inl (fun _ => (0 : Int32)))), (m2, .inl (cI, 12, .inl (fun _ => (0 : Int32)))), (m3, .inl (cI, 12, .inl (fun _ => (0 : Int32)))), (m4, .inl (cI, 24, .inl (fun _ => (-1 : Int32)))), (m5, .inl (cZ, 12, .inl (fun _ => (0 : Int32)))), (m7, .inl (cI, 12, .inl (fun _ => (1 : Int32))))]) hK hN [0, 1, 2, 3, 4, 5, 6] rfl (by decide)) gX6_digest_X6_aheadNow rfl rfl kd_X6_aheadNow ⟨by decide, by decide⟩ (st := [.long (2944484532034275084 : Int64)]) rfl (Nat.le_of_ble_eq_true rfl) dX6_digest_173 ⟨by decide, by decide⟩) hA (fun _ h => h) [0, 1, 2, 3, 4, 5, 6] [7] (wr := [(m13, .inl (cZ, 40, .inl (fun _ => (0 : Int32))))]) rfl rfl (by decide) (by decide) [1, 2, 3, 4, 5, 6, 7, 0] (by decide) (fun _ => rfl) (fun u hu => ?_)
  refine g_i2l (v := (1 : Int64)) B dX6_digest_176 (by decide) ?_
  refine g_ladd (v := (2944484532034275085 : Int64)) B dX6_digest_177 (by decide) ?_
  refine g_lstore_n (lv' := [(0, .ref hm), (1, .long (2944484532034275085 : Int64)), (3, .int (0 : Int32)), (4, .int (3 : Int32))]) B dX6_digest_178 rfl (by decide) [1, 0, 2, 3] rfl ?_
  refine g_iconst (v := (0 : Int32)) B dX6_digest_179 (by decide) ?_
  refine g_istore_n (lv' := [(0, .ref hm), (1, .long (2944484532034275085 : Int64)), (3, .int (0 : Int32)), (4, .int (3 : Int32))]) B dX6_digest_180 rfl (by decide) [1, 2, 0, 3] rfl ?_
  refine g_iload_n B dX6_digest_181 2 rfl ?_
  refine g_bipush (v := (10 : Int32)) B dX6_digest_182 (by decide) ?_
  refine g_icmp_ge (tgt := 231) B dX6_digest_184 (by decide) (fun c215 => absurd c215 (by decide)) (fun _ => ?_)
  refine g_lload_n B dX6_digest_187 1 rfl ?_
  refine g_ldc2 (v := (31 : Int64)) B dX6_digest_188 (List.mem_of_getElem? (i := 3) rfl) ?_
  refine g_lmul (v := (-954699875485230445 : Int64)) B dX6_digest_191 (by decide) ?_
  refine g_aload_n B dX6_digest_192 0 rfl ?_
  refine g_iload_n B dX6_digest_193 2 rfl ?_
  refine g_callW (w2 := (fun (_ : Unit) => [(hm, .inr (6, [.int (0 : Int32), .ref m1, .ref m2, .ref m3, .ref m4, .ref m5, .int (1 : Int32), .ref m7, .int (0 : Int32), .ref m9, .ref m10, .ref m11, .ref m12, .ref m13, .int (0 : Int32), .ref m15, .ref m16, .ref m17])), (m1, .inl (cI, 12, .inl (fun _ => (0 : Int32)))), (m2, .inl (cI, 12, .inl (fun _ => (0 : Int32)))), (m3, .inl (cI, 12, .inl (fun _ => (0 : Int32)))), (m4, .inl (cI, 24, .inl (fun _ => (-1 : Int32)))), (m5, .inl (cZ, 12, .inl (fun _ => (0 : Int32)))), (m7, .inl (cI, 12, .inl (fun _ => (1 : Int32)))), (m13, .inl (cZ, 40, .inl (fun _ => (0 : Int32))))])) (g_runV (q0 := 0) (ci := 6) B hK rfl rfl (r_resultOf l (D := D) (cI := cI) (cL := cL) (cZ := cZ) hm m1 m2 m3 m4 m5 m7 m9 m10 m11 m12 m13 m15 m16 m17 (0 : Int32) (1 : Int32) (0 : Int32) (0 : Int32) 0 (by omega)) (gPw.pre (av := [.ref hm, .int (0 : Int32)]) (wc := [(hm, .inr (6, [.int (0 : Int32), .ref m1, .ref m2, .ref m3, .ref m4, .ref m5, .int (1 : Int32), .ref m7, .int (0 : Int32), .ref m9, .ref m10, .ref m11, .ref m12, .ref m13, .int (0 : Int32), .ref m15, .ref m16, .ref m17])), (m1, .inl (cI, 12, .inl (fun _ => (0 : Int32)))), (m2, .inl (cI, 12, .inl (fun _ => (0 : Int32)))), (m3, .inl (cI, 12, .inl (fun _ => (0 : Int32)))), (m4, .inl (cI, 24, .inl (fun _ => (-1 : Int32)))), (m5, .inl (cZ, 12, .inl (fun _ => (0 : Int32))))]) hK hN [0, 1, 2, 3, 4, 5] rfl (by decide)) gX6_digest_X6_resultOf rfl rfl kd_X6_resultOf ⟨by decide, by decide⟩ (st := [.long (-954699875485230445 : Int64)]) rfl (Nat.le_of_ble_eq_true rfl) dX6_digest_194 ⟨by decide, by decide⟩) hA (fun _ h => h) [0, 1, 2, 3, 4, 5] [6, 7] (wr := [(m7, .inl (cI, 12, .inl (fun _ => (1 : Int32)))), (m13, .inl (cZ, 40, .inl (fun _ => (0 : Int32))))]) rfl rfl (by decide) (by decide) [2, 3, 4, 5, 6, 7, 0, 1] (by decide) (fun _ => rfl) (fun u hu => ?_)
  refine g_i2l (v := (1 : Int64)) B dX6_digest_197 (by decide) ?_
  refine g_ladd (v := (-954699875485230444 : Int64)) B dX6_digest_198 (by decide) ?_
  refine g_ldc2 (v := (31 : Int64)) B dX6_digest_199 (List.mem_of_getElem? (i := 3) rfl) ?_
  refine g_lmul (v := (7297792007376959468 : Int64)) B dX6_digest_202 (by decide) ?_
  refine g_aload_n B dX6_digest_203 0 rfl ?_
  refine g_iload_n B dX6_digest_204 2 rfl ?_
  refine g_callW (w2 := (fun (_ : Unit) => [(hm, .inr (6, [.int (0 : Int32), .ref m1, .ref m2, .ref m3, .ref m4, .ref m5, .int (1 : Int32), .ref m7, .int (0 : Int32), .ref m9, .ref m10, .ref m11, .ref m12, .ref m13, .int (0 : Int32), .ref m15, .ref m16, .ref m17])), (m1, .inl (cI, 12, .inl (fun _ => (0 : Int32)))), (m2, .inl (cI, 12, .inl (fun _ => (0 : Int32)))), (m3, .inl (cI, 12, .inl (fun _ => (0 : Int32)))), (m4, .inl (cI, 24, .inl (fun _ => (-1 : Int32)))), (m5, .inl (cZ, 12, .inl (fun _ => (0 : Int32)))), (m7, .inl (cI, 12, .inl (fun _ => (1 : Int32)))), (m13, .inl (cZ, 40, .inl (fun _ => (0 : Int32))))])) (g_runV (q0 := 0) (ci := 6) B hK rfl rfl (r_edgesOf l (D := D) (cI := cI) (cL := cL) (cZ := cZ) hm m1 m2 m3 m4 m5 m7 m9 m10 m11 m12 m13 m15 m16 m17 (0 : Int32) (1 : Int32) (0 : Int32) (0 : Int32) 0 (by omega)) (gPw.pre (av := [.ref hm, .int (0 : Int32)]) (wc := [(hm, .inr (6, [.int (0 : Int32), .ref m1, .ref m2, .ref m3, .ref m4, .ref m5, .int (1 : Int32), .ref m7, .int (0 : Int32), .ref m9, .ref m10, .ref m11, .ref m12, .ref m13, .int (0 : Int32), .ref m15, .ref m16, .ref m17])), (m1, .inl (cI, 12, .inl (fun _ => (0 : Int32)))), (m2, .inl (cI, 12, .inl (fun _ => (0 : Int32)))), (m3, .inl (cI, 12, .inl (fun _ => (0 : Int32)))), (m4, .inl (cI, 24, .inl (fun _ => (-1 : Int32)))), (m5, .inl (cZ, 12, .inl (fun _ => (0 : Int32))))]) hK hN [0, 1, 2, 3, 4, 5] rfl (by decide)) gX6_digest_X6_edgesOf rfl rfl kd_X6_edgesOf ⟨by decide, by decide⟩ (st := [.long (7297792007376959468 : Int64)]) rfl (Nat.le_of_ble_eq_true rfl) dX6_digest_205 ⟨by decide, by decide⟩) hA (fun _ h => h) [0, 1, 2, 3, 4, 5] [6, 7] (wr := [(m7, .inl (cI, 12, .inl (fun _ => (1 : Int32)))), (m13, .inl (cZ, 40, .inl (fun _ => (0 : Int32))))]) rfl rfl (by decide) (by decide) [2, 3, 4, 5, 6, 7, 0, 1] (by decide) (fun _ => rfl) (fun u hu => ?_)
  refine g_callP (g_runS B (PM.met (r_count_2 l (D := D) (cI := cI) (cL := cL) (cZ := cZ)  )) (gPp.pre (av := [.int (2 : Int32)]) (wc := []) hK hN [] rfl (by decide)) gX6_digest_X6_count rfl kd_X6_count ⟨by decide, by decide⟩ (st := [.long (7297792007376959468 : Int64)]) rfl (Nat.le_of_ble_eq_true rfl) dX6_digest_208 ⟨by decide, by decide⟩) (fun u hu => ?_)
  refine g_i2l (v := (1 : Int64)) B dX6_digest_211 (by decide) ?_
  refine g_ladd (v := (7297792007376959469 : Int64)) B dX6_digest_212 (by decide) ?_
  refine g_ldc2 (v := (31 : Int64)) B dX6_digest_213 (List.mem_of_getElem? (i := 3) rfl) ?_
  refine g_lmul (v := (4870623344171124147 : Int64)) B dX6_digest_216 (by decide) ?_
  refine g_aload_n B dX6_digest_217 0 rfl ?_
  refine g_iload_n B dX6_digest_218 2 rfl ?_
  refine g_callW (w2 := (fun (_ : Unit) => [(hm, .inr (6, [.int (0 : Int32), .ref m1, .ref m2, .ref m3, .ref m4, .ref m5, .int (1 : Int32), .ref m7, .int (0 : Int32), .ref m9, .ref m10, .ref m11, .ref m12, .ref m13, .int (0 : Int32), .ref m15, .ref m16, .ref m17])), (m1, .inl (cI, 12, .inl (fun _ => (0 : Int32)))), (m2, .inl (cI, 12, .inl (fun _ => (0 : Int32)))), (m3, .inl (cI, 12, .inl (fun _ => (0 : Int32)))), (m4, .inl (cI, 24, .inl (fun _ => (-1 : Int32)))), (m5, .inl (cZ, 12, .inl (fun _ => (0 : Int32)))), (m7, .inl (cI, 12, .inl (fun _ => (1 : Int32)))), (m13, .inl (cZ, 40, .inl (fun _ => (0 : Int32))))])) (g_runV (q0 := 0) (ci := 6) B hK rfl rfl (r_wouldDropNow l (D := D) (cI := cI) (cL := cL) (cZ := cZ) hm m1 m2 m3 m4 m5 m7 m9 m10 m11 m12 m13 m15 m16 m17 (0 : Int32) (1 : Int32) (0 : Int32) 0 (by omega)) (gPw.pre (av := [.ref hm, .int (0 : Int32)]) (wc := [(hm, .inr (6, [.int (0 : Int32), .ref m1, .ref m2, .ref m3, .ref m4, .ref m5, .int (1 : Int32), .ref m7, .int (0 : Int32), .ref m9, .ref m10, .ref m11, .ref m12, .ref m13, .int (0 : Int32), .ref m15, .ref m16, .ref m17])), (m1, .inl (cI, 12, .inl (fun _ => (0 : Int32)))), (m2, .inl (cI, 12, .inl (fun _ => (0 : Int32)))), (m3, .inl (cI, 12, .inl (fun _ => (0 : Int32)))), (m4, .inl (cI, 24, .inl (fun _ => (-1 : Int32)))), (m5, .inl (cZ, 12, .inl (fun _ => (0 : Int32)))), (m13, .inl (cZ, 40, .inl (fun _ => (0 : Int32))))]) hK hN [0, 1, 2, 3, 4, 5, 7] rfl (by decide)) gX6_digest_X6_wouldDropNow rfl rfl kd_X6_wouldDropNow ⟨by decide, by decide⟩ (st := [.long (4870623344171124147 : Int64)]) rfl (Nat.le_of_ble_eq_true rfl) dX6_digest_219 ⟨by decide, by decide⟩) hA (fun _ h => h) [0, 1, 2, 3, 4, 5, 7] [6] (wr := [(m7, .inl (cI, 12, .inl (fun _ => (1 : Int32))))]) rfl rfl (by decide) (by decide) [1, 2, 3, 4, 5, 6, 0, 7] (by decide) (fun _ => rfl) (fun u hu => ?_)
  refine g_i2l (v := (0 : Int64)) B dX6_digest_222 (by decide) ?_
  refine g_ladd (v := (4870623344171124147 : Int64)) B dX6_digest_223 (by decide) ?_
  refine g_lstore_n (lv' := [(0, .ref hm), (1, .long (4870623344171124147 : Int64)), (3, .int (0 : Int32)), (4, .int (3 : Int32))]) B dX6_digest_224 rfl (by decide) [1, 0, 2, 3] rfl ?_
  refine g_iinc (lv' := [(0, .ref hm), (1, .long (4870623344171124147 : Int64)), (3, .int (1 : Int32)), (4, .int (3 : Int32))]) B dX6_digest_225 2 rfl (by decide) (by decide) [1, 2, 0, 3] rfl ?_
  refine g_goto (tgt := 181) B dX6_digest_228 (by decide) ?_
  refine g_iload_n B dX6_digest_181 2 rfl ?_
  refine g_bipush (v := (10 : Int32)) B dX6_digest_182 (by decide) ?_
  refine g_icmp_ge (tgt := 231) B dX6_digest_184 (by decide) (fun c220 => absurd c220 (by decide)) (fun _ => ?_)
  refine g_lload_n B dX6_digest_187 1 rfl ?_
  refine g_ldc2 (v := (31 : Int64)) B dX6_digest_188 (List.mem_of_getElem? (i := 3) rfl) ?_
  refine g_lmul (v := (3415371079628435629 : Int64)) B dX6_digest_191 (by decide) ?_
  refine g_aload_n B dX6_digest_192 0 rfl ?_
  refine g_iload_n B dX6_digest_193 2 rfl ?_
  refine g_callW (w2 := (fun (_ : Unit) => [(hm, .inr (6, [.int (0 : Int32), .ref m1, .ref m2, .ref m3, .ref m4, .ref m5, .int (1 : Int32), .ref m7, .int (0 : Int32), .ref m9, .ref m10, .ref m11, .ref m12, .ref m13, .int (0 : Int32), .ref m15, .ref m16, .ref m17])), (m1, .inl (cI, 12, .inl (fun _ => (0 : Int32)))), (m2, .inl (cI, 12, .inl (fun _ => (0 : Int32)))), (m3, .inl (cI, 12, .inl (fun _ => (0 : Int32)))), (m4, .inl (cI, 24, .inl (fun _ => (-1 : Int32)))), (m5, .inl (cZ, 12, .inl (fun _ => (0 : Int32)))), (m7, .inl (cI, 12, .inl (fun _ => (1 : Int32)))), (m13, .inl (cZ, 40, .inl (fun _ => (0 : Int32))))])) (g_runV (q0 := 0) (ci := 6) B hK rfl rfl (r_resultOf l (D := D) (cI := cI) (cL := cL) (cZ := cZ) hm m1 m2 m3 m4 m5 m7 m9 m10 m11 m12 m13 m15 m16 m17 (0 : Int32) (1 : Int32) (0 : Int32) (0 : Int32) 1 (by omega)) (gPw.pre (av := [.ref hm, .int (1 : Int32)]) (wc := [(hm, .inr (6, [.int (0 : Int32), .ref m1, .ref m2, .ref m3, .ref m4, .ref m5, .int (1 : Int32), .ref m7, .int (0 : Int32), .ref m9, .ref m10, .ref m11, .ref m12, .ref m13, .int (0 : Int32), .ref m15, .ref m16, .ref m17])), (m1, .inl (cI, 12, .inl (fun _ => (0 : Int32)))), (m2, .inl (cI, 12, .inl (fun _ => (0 : Int32)))), (m3, .inl (cI, 12, .inl (fun _ => (0 : Int32)))), (m4, .inl (cI, 24, .inl (fun _ => (-1 : Int32)))), (m5, .inl (cZ, 12, .inl (fun _ => (0 : Int32))))]) hK hN [0, 1, 2, 3, 4, 5] rfl (by decide)) gX6_digest_X6_resultOf rfl rfl kd_X6_resultOf ⟨by decide, by decide⟩ (st := [.long (3415371079628435629 : Int64)]) rfl (Nat.le_of_ble_eq_true rfl) dX6_digest_194 ⟨by decide, by decide⟩) hA (fun _ h => h) [0, 1, 2, 3, 4, 5] [6, 7] (wr := [(m7, .inl (cI, 12, .inl (fun _ => (1 : Int32)))), (m13, .inl (cZ, 40, .inl (fun _ => (0 : Int32))))]) rfl rfl (by decide) (by decide) [2, 3, 4, 5, 6, 7, 0, 1] (by decide) (fun _ => rfl) (fun u hu => ?_)
  refine g_i2l (v := (1 : Int64)) B dX6_digest_197 (by decide) ?_
  refine g_ladd (v := (3415371079628435630 : Int64)) B dX6_digest_198 (by decide) ?_
  refine g_ldc2 (v := (31 : Int64)) B dX6_digest_199 (List.mem_of_getElem? (i := 3) rfl) ?_
  refine g_lmul (v := (-4803960973775805166 : Int64)) B dX6_digest_202 (by decide) ?_
  refine g_aload_n B dX6_digest_203 0 rfl ?_
  refine g_iload_n B dX6_digest_204 2 rfl ?_
  refine g_callW (w2 := (fun (_ : Unit) => [(hm, .inr (6, [.int (0 : Int32), .ref m1, .ref m2, .ref m3, .ref m4, .ref m5, .int (1 : Int32), .ref m7, .int (0 : Int32), .ref m9, .ref m10, .ref m11, .ref m12, .ref m13, .int (0 : Int32), .ref m15, .ref m16, .ref m17])), (m1, .inl (cI, 12, .inl (fun _ => (0 : Int32)))), (m2, .inl (cI, 12, .inl (fun _ => (0 : Int32)))), (m3, .inl (cI, 12, .inl (fun _ => (0 : Int32)))), (m4, .inl (cI, 24, .inl (fun _ => (-1 : Int32)))), (m5, .inl (cZ, 12, .inl (fun _ => (0 : Int32)))), (m7, .inl (cI, 12, .inl (fun _ => (1 : Int32)))), (m13, .inl (cZ, 40, .inl (fun _ => (0 : Int32))))])) (g_runV (q0 := 0) (ci := 6) B hK rfl rfl (r_edgesOf l (D := D) (cI := cI) (cL := cL) (cZ := cZ) hm m1 m2 m3 m4 m5 m7 m9 m10 m11 m12 m13 m15 m16 m17 (0 : Int32) (1 : Int32) (0 : Int32) (0 : Int32) 1 (by omega)) (gPw.pre (av := [.ref hm, .int (1 : Int32)]) (wc := [(hm, .inr (6, [.int (0 : Int32), .ref m1, .ref m2, .ref m3, .ref m4, .ref m5, .int (1 : Int32), .ref m7, .int (0 : Int32), .ref m9, .ref m10, .ref m11, .ref m12, .ref m13, .int (0 : Int32), .ref m15, .ref m16, .ref m17])), (m1, .inl (cI, 12, .inl (fun _ => (0 : Int32)))), (m2, .inl (cI, 12, .inl (fun _ => (0 : Int32)))), (m3, .inl (cI, 12, .inl (fun _ => (0 : Int32)))), (m4, .inl (cI, 24, .inl (fun _ => (-1 : Int32)))), (m5, .inl (cZ, 12, .inl (fun _ => (0 : Int32))))]) hK hN [0, 1, 2, 3, 4, 5] rfl (by decide)) gX6_digest_X6_edgesOf rfl rfl kd_X6_edgesOf ⟨by decide, by decide⟩ (st := [.long (-4803960973775805166 : Int64)]) rfl (Nat.le_of_ble_eq_true rfl) dX6_digest_205 ⟨by decide, by decide⟩) hA (fun _ h => h) [0, 1, 2, 3, 4, 5] [6, 7] (wr := [(m7, .inl (cI, 12, .inl (fun _ => (1 : Int32)))), (m13, .inl (cZ, 40, .inl (fun _ => (0 : Int32))))]) rfl rfl (by decide) (by decide) [2, 3, 4, 5, 6, 7, 0, 1] (by decide) (fun _ => rfl) (fun u hu => ?_)
  refine g_callP (g_runS B (PM.met (r_count_2 l (D := D) (cI := cI) (cL := cL) (cZ := cZ)  )) (gPp.pre (av := [.int (2 : Int32)]) (wc := []) hK hN [] rfl (by decide)) gX6_digest_X6_count rfl kd_X6_count ⟨by decide, by decide⟩ (st := [.long (-4803960973775805166 : Int64)]) rfl (Nat.le_of_ble_eq_true rfl) dX6_digest_208 ⟨by decide, by decide⟩) (fun u hu => ?_)
  refine g_i2l (v := (1 : Int64)) B dX6_digest_211 (by decide) ?_
  refine g_ladd (v := (-4803960973775805165 : Int64)) B dX6_digest_212 (by decide) ?_
  refine g_ldc2 (v := (31 : Int64)) B dX6_digest_213 (List.mem_of_getElem? (i := 3) rfl) ?_
  refine g_lmul (v := (-1348837597373547187 : Int64)) B dX6_digest_216 (by decide) ?_
  refine g_aload_n B dX6_digest_217 0 rfl ?_
  refine g_iload_n B dX6_digest_218 2 rfl ?_
  refine g_callW (w2 := (fun (_ : Unit) => [(hm, .inr (6, [.int (0 : Int32), .ref m1, .ref m2, .ref m3, .ref m4, .ref m5, .int (1 : Int32), .ref m7, .int (0 : Int32), .ref m9, .ref m10, .ref m11, .ref m12, .ref m13, .int (0 : Int32), .ref m15, .ref m16, .ref m17])), (m1, .inl (cI, 12, .inl (fun _ => (0 : Int32)))), (m2, .inl (cI, 12, .inl (fun _ => (0 : Int32)))), (m3, .inl (cI, 12, .inl (fun _ => (0 : Int32)))), (m4, .inl (cI, 24, .inl (fun _ => (-1 : Int32)))), (m5, .inl (cZ, 12, .inl (fun _ => (0 : Int32)))), (m7, .inl (cI, 12, .inl (fun _ => (1 : Int32)))), (m13, .inl (cZ, 40, .inl (fun _ => (0 : Int32))))])) (g_runV (q0 := 0) (ci := 6) B hK rfl rfl (r_wouldDropNow l (D := D) (cI := cI) (cL := cL) (cZ := cZ) hm m1 m2 m3 m4 m5 m7 m9 m10 m11 m12 m13 m15 m16 m17 (0 : Int32) (1 : Int32) (0 : Int32) 1 (by omega)) (gPw.pre (av := [.ref hm, .int (1 : Int32)]) (wc := [(hm, .inr (6, [.int (0 : Int32), .ref m1, .ref m2, .ref m3, .ref m4, .ref m5, .int (1 : Int32), .ref m7, .int (0 : Int32), .ref m9, .ref m10, .ref m11, .ref m12, .ref m13, .int (0 : Int32), .ref m15, .ref m16, .ref m17])), (m1, .inl (cI, 12, .inl (fun _ => (0 : Int32)))), (m2, .inl (cI, 12, .inl (fun _ => (0 : Int32)))), (m3, .inl (cI, 12, .inl (fun _ => (0 : Int32)))), (m4, .inl (cI, 24, .inl (fun _ => (-1 : Int32)))), (m5, .inl (cZ, 12, .inl (fun _ => (0 : Int32)))), (m13, .inl (cZ, 40, .inl (fun _ => (0 : Int32))))]) hK hN [0, 1, 2, 3, 4, 5, 7] rfl (by decide)) gX6_digest_X6_wouldDropNow rfl rfl kd_X6_wouldDropNow ⟨by decide, by decide⟩ (st := [.long (-1348837597373547187 : Int64)]) rfl (Nat.le_of_ble_eq_true rfl) dX6_digest_219 ⟨by decide, by decide⟩) hA (fun _ h => h) [0, 1, 2, 3, 4, 5, 7] [6] (wr := [(m7, .inl (cI, 12, .inl (fun _ => (1 : Int32))))]) rfl rfl (by decide) (by decide) [1, 2, 3, 4, 5, 6, 0, 7] (by decide) (fun _ => rfl) (fun u hu => ?_)
  refine g_i2l (v := (0 : Int64)) B dX6_digest_222 (by decide) ?_
  refine g_ladd (v := (-1348837597373547187 : Int64)) B dX6_digest_223 (by decide) ?_
  refine g_lstore_n (lv' := [(0, .ref hm), (1, .long (-1348837597373547187 : Int64)), (3, .int (1 : Int32)), (4, .int (3 : Int32))]) B dX6_digest_224 rfl (by decide) [1, 0, 2, 3] rfl ?_
  refine g_iinc (lv' := [(0, .ref hm), (1, .long (-1348837597373547187 : Int64)), (3, .int (2 : Int32)), (4, .int (3 : Int32))]) B dX6_digest_225 2 rfl (by decide) (by decide) [1, 2, 0, 3] rfl ?_
  refine g_goto (tgt := 181) B dX6_digest_228 (by decide) ?_
  refine g_iload_n B dX6_digest_181 2 rfl ?_
  refine g_bipush (v := (10 : Int32)) B dX6_digest_182 (by decide) ?_
  refine g_icmp_ge (tgt := 231) B dX6_digest_184 (by decide) (fun c225 => absurd c225 (by decide)) (fun _ => ?_)
  refine g_lload_n B dX6_digest_187 1 rfl ?_
  refine g_ldc2 (v := (31 : Int64)) B dX6_digest_188 (List.mem_of_getElem? (i := 3) rfl) ?_
  refine g_lmul (v := (-4920477371160859565 : Int64)) B dX6_digest_191 (by decide) ?_
  refine g_aload_n B dX6_digest_192 0 rfl ?_
  refine g_iload_n B dX6_digest_193 2 rfl ?_
  refine g_callW (w2 := (fun (_ : Unit) => [(hm, .inr (6, [.int (0 : Int32), .ref m1, .ref m2, .ref m3, .ref m4, .ref m5, .int (1 : Int32), .ref m7, .int (0 : Int32), .ref m9, .ref m10, .ref m11, .ref m12, .ref m13, .int (0 : Int32), .ref m15, .ref m16, .ref m17])), (m1, .inl (cI, 12, .inl (fun _ => (0 : Int32)))), (m2, .inl (cI, 12, .inl (fun _ => (0 : Int32)))), (m3, .inl (cI, 12, .inl (fun _ => (0 : Int32)))), (m4, .inl (cI, 24, .inl (fun _ => (-1 : Int32)))), (m5, .inl (cZ, 12, .inl (fun _ => (0 : Int32)))), (m7, .inl (cI, 12, .inl (fun _ => (1 : Int32)))), (m13, .inl (cZ, 40, .inl (fun _ => (0 : Int32))))])) (g_runV (q0 := 0) (ci := 6) B hK rfl rfl (r_resultOf l (D := D) (cI := cI) (cL := cL) (cZ := cZ) hm m1 m2 m3 m4 m5 m7 m9 m10 m11 m12 m13 m15 m16 m17 (0 : Int32) (1 : Int32) (0 : Int32) (0 : Int32) 2 (by omega)) (gPw.pre (av := [.ref hm, .int (2 : Int32)]) (wc := [(hm, .inr (6, [.int (0 : Int32), .ref m1, .ref m2, .ref m3, .ref m4, .ref m5, .int (1 : Int32), .ref m7, .int (0 : Int32), .ref m9, .ref m10, .ref m11, .ref m12, .ref m13, .int (0 : Int32), .ref m15, .ref m16, .ref m17])), (m1, .inl (cI, 12, .inl (fun _ => (0 : Int32)))), (m2, .inl (cI, 12, .inl (fun _ => (0 : Int32)))), (m3, .inl (cI, 12, .inl (fun _ => (0 : Int32)))), (m4, .inl (cI, 24, .inl (fun _ => (-1 : Int32)))), (m5, .inl (cZ, 12, .inl (fun _ => (0 : Int32))))]) hK hN [0, 1, 2, 3, 4, 5] rfl (by decide)) gX6_digest_X6_resultOf rfl rfl kd_X6_resultOf ⟨by decide, by decide⟩ (st := [.long (-4920477371160859565 : Int64)]) rfl (Nat.le_of_ble_eq_true rfl) dX6_digest_194 ⟨by decide, by decide⟩) hA (fun _ h => h) [0, 1, 2, 3, 4, 5] [6, 7] (wr := [(m7, .inl (cI, 12, .inl (fun _ => (1 : Int32)))), (m13, .inl (cZ, 40, .inl (fun _ => (0 : Int32))))]) rfl rfl (by decide) (by decide) [2, 3, 4, 5, 6, 7, 0, 1] (by decide) (fun _ => rfl) (fun u hu => ?_)
  refine g_i2l (v := (1 : Int64)) B dX6_digest_197 (by decide) ?_
  refine g_ladd (v := (-4920477371160859564 : Int64)) B dX6_digest_198 (by decide) ?_
  refine g_ldc2 (v := (31 : Int64)) B dX6_digest_199 (List.mem_of_getElem? (i := 3) rfl) ?_
  refine g_lmul (v := (-4960845916310233556 : Int64)) B dX6_digest_202 (by decide) ?_
  refine g_aload_n B dX6_digest_203 0 rfl ?_
  refine g_iload_n B dX6_digest_204 2 rfl ?_
  refine g_callW (w2 := (fun (_ : Unit) => [(hm, .inr (6, [.int (0 : Int32), .ref m1, .ref m2, .ref m3, .ref m4, .ref m5, .int (1 : Int32), .ref m7, .int (0 : Int32), .ref m9, .ref m10, .ref m11, .ref m12, .ref m13, .int (0 : Int32), .ref m15, .ref m16, .ref m17])), (m1, .inl (cI, 12, .inl (fun _ => (0 : Int32)))), (m2, .inl (cI, 12, .inl (fun _ => (0 : Int32)))), (m3, .inl (cI, 12, .inl (fun _ => (0 : Int32)))), (m4, .inl (cI, 24, .inl (fun _ => (-1 : Int32)))), (m5, .inl (cZ, 12, .inl (fun _ => (0 : Int32)))), (m7, .inl (cI, 12, .inl (fun _ => (1 : Int32)))), (m13, .inl (cZ, 40, .inl (fun _ => (0 : Int32))))])) (g_runV (q0 := 0) (ci := 6) B hK rfl rfl (r_edgesOf l (D := D) (cI := cI) (cL := cL) (cZ := cZ) hm m1 m2 m3 m4 m5 m7 m9 m10 m11 m12 m13 m15 m16 m17 (0 : Int32) (1 : Int32) (0 : Int32) (0 : Int32) 2 (by omega)) (gPw.pre (av := [.ref hm, .int (2 : Int32)]) (wc := [(hm, .inr (6, [.int (0 : Int32), .ref m1, .ref m2, .ref m3, .ref m4, .ref m5, .int (1 : Int32), .ref m7, .int (0 : Int32), .ref m9, .ref m10, .ref m11, .ref m12, .ref m13, .int (0 : Int32), .ref m15, .ref m16, .ref m17])), (m1, .inl (cI, 12, .inl (fun _ => (0 : Int32)))), (m2, .inl (cI, 12, .inl (fun _ => (0 : Int32)))), (m3, .inl (cI, 12, .inl (fun _ => (0 : Int32)))), (m4, .inl (cI, 24, .inl (fun _ => (-1 : Int32)))), (m5, .inl (cZ, 12, .inl (fun _ => (0 : Int32))))]) hK hN [0, 1, 2, 3, 4, 5] rfl (by decide)) gX6_digest_X6_edgesOf rfl rfl kd_X6_edgesOf ⟨by decide, by decide⟩ (st := [.long (-4960845916310233556 : Int64)]) rfl (Nat.le_of_ble_eq_true rfl) dX6_digest_205 ⟨by decide, by decide⟩) hA (fun _ h => h) [0, 1, 2, 3, 4, 5] [6, 7] (wr := [(m7, .inl (cI, 12, .inl (fun _ => (1 : Int32)))), (m13, .inl (cZ, 40, .inl (fun _ => (0 : Int32))))]) rfl rfl (by decide) (by decide) [2, 3, 4, 5, 6, 7, 0, 1] (by decide) (fun _ => rfl) (fun u hu => ?_)
  refine g_callP (g_runS B (PM.met (r_count_2 l (D := D) (cI := cI) (cL := cL) (cZ := cZ)  )) (gPp.pre (av := [.int (2 : Int32)]) (wc := []) hK hN [] rfl (by decide)) gX6_digest_X6_count rfl kd_X6_count ⟨by decide, by decide⟩ (st := [.long (-4960845916310233556 : Int64)]) rfl (Nat.le_of_ble_eq_true rfl) dX6_digest_208 ⟨by decide, by decide⟩) (fun u hu => ?_)
  refine g_i2l (v := (1 : Int64)) B dX6_digest_211 (by decide) ?_
  refine g_ladd (v := (-4960845916310233555 : Int64)) B dX6_digest_212 (by decide) ?_
  refine g_ldc2 (v := (31 : Int64)) B dX6_digest_213 (List.mem_of_getElem? (i := 3) rfl) ?_
  refine g_lmul (v := (-6212270815940827277 : Int64)) B dX6_digest_216 (by decide) ?_
  refine g_aload_n B dX6_digest_217 0 rfl ?_
  refine g_iload_n B dX6_digest_218 2 rfl ?_
  refine g_callW (w2 := (fun (_ : Unit) => [(hm, .inr (6, [.int (0 : Int32), .ref m1, .ref m2, .ref m3, .ref m4, .ref m5, .int (1 : Int32), .ref m7, .int (0 : Int32), .ref m9, .ref m10, .ref m11, .ref m12, .ref m13, .int (0 : Int32), .ref m15, .ref m16, .ref m17])), (m1, .inl (cI, 12, .inl (fun _ => (0 : Int32)))), (m2, .inl (cI, 12, .inl (fun _ => (0 : Int32)))), (m3, .inl (cI, 12, .inl (fun _ => (0 : Int32)))), (m4, .inl (cI, 24, .inl (fun _ => (-1 : Int32)))), (m5, .inl (cZ, 12, .inl (fun _ => (0 : Int32)))), (m7, .inl (cI, 12, .inl (fun _ => (1 : Int32)))), (m13, .inl (cZ, 40, .inl (fun _ => (0 : Int32))))])) (g_runV (q0 := 0) (ci := 6) B hK rfl rfl (r_wouldDropNow l (D := D) (cI := cI) (cL := cL) (cZ := cZ) hm m1 m2 m3 m4 m5 m7 m9 m10 m11 m12 m13 m15 m16 m17 (0 : Int32) (1 : Int32) (0 : Int32) 2 (by omega)) (gPw.pre (av := [.ref hm, .int (2 : Int32)]) (wc := [(hm, .inr (6, [.int (0 : Int32), .ref m1, .ref m2, .ref m3, .ref m4, .ref m5, .int (1 : Int32), .ref m7, .int (0 : Int32), .ref m9, .ref m10, .ref m11, .ref m12, .ref m13, .int (0 : Int32), .ref m15, .ref m16, .ref m17])), (m1, .inl (cI, 12, .inl (fun _ => (0 : Int32)))), (m2, .inl (cI, 12, .inl (fun _ => (0 : Int32)))), (m3, .inl (cI, 12, .inl (fun _ => (0 : Int32)))), (m4, .inl (cI, 24, .inl (fun _ => (-1 : Int32)))), (m5, .inl (cZ, 12, .inl (fun _ => (0 : Int32)))), (m13, .inl (cZ, 40, .inl (fun _ => (0 : Int32))))]) hK hN [0, 1, 2, 3, 4, 5, 7] rfl (by decide)) gX6_digest_X6_wouldDropNow rfl rfl kd_X6_wouldDropNow ⟨by decide, by decide⟩ (st := [.long (-6212270815940827277 : Int64)]) rfl (Nat.le_of_ble_eq_true rfl) dX6_digest_219 ⟨by decide, by decide⟩) hA (fun _ h => h) [0, 1, 2, 3, 4, 5, 7] [6] (wr := [(m7, .inl (cI, 12, .inl (fun _ => (1 : Int32))))]) rfl rfl (by decide) (by decide) [1, 2, 3, 4, 5, 6, 0, 7] (by decide) (fun _ => rfl) (fun u hu => ?_)
  refine g_i2l (v := (0 : Int64)) B dX6_digest_222 (by decide) ?_
  refine g_ladd (v := (-6212270815940827277 : Int64)) B dX6_digest_223 (by decide) ?_
  refine g_lstore_n (lv' := [(0, .ref hm), (1, .long (-6212270815940827277 : Int64)), (3, .int (2 : Int32)), (4, .int (3 : Int32))]) B dX6_digest_224 rfl (by decide) [1, 0, 2, 3] rfl ?_
  refine g_iinc (lv' := [(0, .ref hm), (1, .long (-6212270815940827277 : Int64)), (3, .int (3 : Int32)), (4, .int (3 : Int32))]) B dX6_digest_225 2 rfl (by decide) (by decide) [1, 2, 0, 3] rfl ?_
  refine g_goto (tgt := 181) B dX6_digest_228 (by decide) ?_
  refine g_iload_n B dX6_digest_181 2 rfl ?_
  refine g_bipush (v := (10 : Int32)) B dX6_digest_182 (by decide) ?_
  refine g_icmp_ge (tgt := 231) B dX6_digest_184 (by decide) (fun c230 => absurd c230 (by decide)) (fun _ => ?_)
  refine g_lload_n B dX6_digest_187 1 rfl ?_
  refine g_ldc2 (v := (31 : Int64)) B dX6_digest_188 (List.mem_of_getElem? (i := 3) rfl) ?_
  refine g_lmul (v := (-8112954557070129427 : Int64)) B dX6_digest_191 (by decide) ?_
  refine g_aload_n B dX6_digest_192 0 rfl ?_
  refine g_iload_n B dX6_digest_193 2 rfl ?_
  refine g_callW (w2 := (fun (_ : Unit) => [(hm, .inr (6, [.int (0 : Int32), .ref m1, .ref m2, .ref m3, .ref m4, .ref m5, .int (1 : Int32), .ref m7, .int (0 : Int32), .ref m9, .ref m10, .ref m11, .ref m12, .ref m13, .int (0 : Int32), .ref m15, .ref m16, .ref m17])), (m1, .inl (cI, 12, .inl (fun _ => (0 : Int32)))), (m2, .inl (cI, 12, .inl (fun _ => (0 : Int32)))), (m3, .inl (cI, 12, .inl (fun _ => (0 : Int32)))), (m4, .inl (cI, 24, .inl (fun _ => (-1 : Int32)))), (m5, .inl (cZ, 12, .inl (fun _ => (0 : Int32)))), (m7, .inl (cI, 12, .inl (fun _ => (1 : Int32)))), (m13, .inl (cZ, 40, .inl (fun _ => (0 : Int32))))])) (g_runV (q0 := 0) (ci := 6) B hK rfl rfl (r_resultOf l (D := D) (cI := cI) (cL := cL) (cZ := cZ) hm m1 m2 m3 m4 m5 m7 m9 m10 m11 m12 m13 m15 m16 m17 (0 : Int32) (1 : Int32) (0 : Int32) (0 : Int32) 3 (by omega)) (gPw.pre (av := [.ref hm, .int (3 : Int32)]) (wc := [(hm, .inr (6, [.int (0 : Int32), .ref m1, .ref m2, .ref m3, .ref m4, .ref m5, .int (1 : Int32), .ref m7, .int (0 : Int32), .ref m9, .ref m10, .ref m11, .ref m12, .ref m13, .int (0 : Int32), .ref m15, .ref m16, .ref m17])), (m1, .inl (cI, 12, .inl (fun _ => (0 : Int32)))), (m2, .inl (cI, 12, .inl (fun _ => (0 : Int32)))), (m3, .inl (cI, 12, .inl (fun _ => (0 : Int32)))), (m4, .inl (cI, 24, .inl (fun _ => (-1 : Int32)))), (m5, .inl (cZ, 12, .inl (fun _ => (0 : Int32))))]) hK hN [0, 1, 2, 3, 4, 5] rfl (by decide)) gX6_digest_X6_resultOf rfl rfl kd_X6_resultOf ⟨by decide, by decide⟩ (st := [.long (-8112954557070129427 : Int64)]) rfl (Nat.le_of_ble_eq_true rfl) dX6_digest_194 ⟨by decide, by decide⟩) hA (fun _ h => h) [0, 1, 2, 3, 4, 5] [6, 7] (wr := [(m7, .inl (cI, 12, .inl (fun _ => (1 : Int32)))), (m13, .inl (cZ, 40, .inl (fun _ => (0 : Int32))))]) rfl rfl (by decide) (by decide) [2, 3, 4, 5, 6, 7, 0, 1] (by decide) (fun _ => rfl) (fun u hu => ?_)
  refine g_i2l (v := (1 : Int64)) B dX6_digest_197 (by decide) ?_
  refine g_ladd (v := (-8112954557070129426 : Int64)) B dX6_digest_198 (by decide) ?_
  refine g_ldc2 (v := (31 : Int64)) B dX6_digest_199 (List.mem_of_getElem? (i := 3) rfl) ?_
  refine g_lmul (v := (6752825762759710418 : Int64)) B dX6_digest_202 (by decide) ?_
  refine g_aload_n B dX6_digest_203 0 rfl ?_
  refine g_iload_n B dX6_digest_204 2 rfl ?_
  refine g_callW (w2 := (fun (_ : Unit) => [(hm, .inr (6, [.int (0 : Int32), .ref m1, .ref m2, .ref m3, .ref m4, .ref m5, .int (1 : Int32), .ref m7, .int (0 : Int32), .ref m9, .ref m10, .ref m11, .ref m12, .ref m13, .int (0 : Int32), .ref m15, .ref m16, .ref m17])), (m1, .inl (cI, 12, .inl (fun _ => (0 : Int32)))), (m2, .inl (cI, 12, .inl (fun _ => (0 : Int32)))), (m3, .inl (cI, 12, .inl (fun _ => (0 : Int32)))), (m4, .inl (cI, 24, .inl (fun _ => (-1 : Int32)))), (m5, .inl (cZ, 12, .inl (fun _ => (0 : Int32)))), (m7, .inl (cI, 12, .inl (fun _ => (1 : Int32)))), (m13, .inl (cZ, 40, .inl (fun _ => (0 : Int32))))])) (g_runV (q0 := 0) (ci := 6) B hK rfl rfl (r_edgesOf l (D := D) (cI := cI) (cL := cL) (cZ := cZ) hm m1 m2 m3 m4 m5 m7 m9 m10 m11 m12 m13 m15 m16 m17 (0 : Int32) (1 : Int32) (0 : Int32) (0 : Int32) 3 (by omega)) (gPw.pre (av := [.ref hm, .int (3 : Int32)]) (wc := [(hm, .inr (6, [.int (0 : Int32), .ref m1, .ref m2, .ref m3, .ref m4, .ref m5, .int (1 : Int32), .ref m7, .int (0 : Int32), .ref m9, .ref m10, .ref m11, .ref m12, .ref m13, .int (0 : Int32), .ref m15, .ref m16, .ref m17])), (m1, .inl (cI, 12, .inl (fun _ => (0 : Int32)))), (m2, .inl (cI, 12, .inl (fun _ => (0 : Int32)))), (m3, .inl (cI, 12, .inl (fun _ => (0 : Int32)))), (m4, .inl (cI, 24, .inl (fun _ => (-1 : Int32)))), (m5, .inl (cZ, 12, .inl (fun _ => (0 : Int32))))]) hK hN [0, 1, 2, 3, 4, 5] rfl (by decide)) gX6_digest_X6_edgesOf rfl rfl kd_X6_edgesOf ⟨by decide, by decide⟩ (st := [.long (6752825762759710418 : Int64)]) rfl (Nat.le_of_ble_eq_true rfl) dX6_digest_205 ⟨by decide, by decide⟩) hA (fun _ h => h) [0, 1, 2, 3, 4, 5] [6, 7] (wr := [(m7, .inl (cI, 12, .inl (fun _ => (1 : Int32)))), (m13, .inl (cZ, 40, .inl (fun _ => (0 : Int32))))]) rfl rfl (by decide) (by decide) [2, 3, 4, 5, 6, 7, 0, 1] (by decide) (fun _ => rfl) (fun u hu => ?_)
  refine g_callP (g_runS B (PM.met (r_count_2 l (D := D) (cI := cI) (cL := cL) (cZ := cZ)  )) (gPp.pre (av := [.int (2 : Int32)]) (wc := []) hK hN [] rfl (by decide)) gX6_digest_X6_count rfl kd_X6_count ⟨by decide, by decide⟩ (st := [.long (6752825762759710418 : Int64)]) rfl (Nat.le_of_ble_eq_true rfl) dX6_digest_208 ⟨by decide, by decide⟩) (fun u hu => ?_)
  refine g_i2l (v := (1 : Int64)) B dX6_digest_211 (by decide) ?_
  refine g_ladd (v := (6752825762759710419 : Int64)) B dX6_digest_212 (by decide) ?_
  refine g_ldc2 (v := (31 : Int64)) B dX6_digest_213 (List.mem_of_getElem? (i := 3) rfl) ?_
  refine g_lmul (v := (6423413834745955213 : Int64)) B dX6_digest_216 (by decide) ?_
  refine g_aload_n B dX6_digest_217 0 rfl ?_
  refine g_iload_n B dX6_digest_218 2 rfl ?_
  refine g_callW (w2 := (fun (_ : Unit) => [(hm, .inr (6, [.int (0 : Int32), .ref m1, .ref m2, .ref m3, .ref m4, .ref m5, .int (1 : Int32), .ref m7, .int (0 : Int32), .ref m9, .ref m10, .ref m11, .ref m12, .ref m13, .int (0 : Int32), .ref m15, .ref m16, .ref m17])), (m1, .inl (cI, 12, .inl (fun _ => (0 : Int32)))), (m2, .inl (cI, 12, .inl (fun _ => (0 : Int32)))), (m3, .inl (cI, 12, .inl (fun _ => (0 : Int32)))), (m4, .inl (cI, 24, .inl (fun _ => (-1 : Int32)))), (m5, .inl (cZ, 12, .inl (fun _ => (0 : Int32)))), (m7, .inl (cI, 12, .inl (fun _ => (1 : Int32)))), (m13, .inl (cZ, 40, .inl (fun _ => (0 : Int32))))])) (g_runV (q0 := 0) (ci := 6) B hK rfl rfl (r_wouldDropNow l (D := D) (cI := cI) (cL := cL) (cZ := cZ) hm m1 m2 m3 m4 m5 m7 m9 m10 m11 m12 m13 m15 m16 m17 (0 : Int32) (1 : Int32) (0 : Int32) 3 (by omega)) (gPw.pre (av := [.ref hm, .int (3 : Int32)]) (wc := [(hm, .inr (6, [.int (0 : Int32), .ref m1, .ref m2, .ref m3, .ref m4, .ref m5, .int (1 : Int32), .ref m7, .int (0 : Int32), .ref m9, .ref m10, .ref m11, .ref m12, .ref m13, .int (0 : Int32), .ref m15, .ref m16, .ref m17])), (m1, .inl (cI, 12, .inl (fun _ => (0 : Int32)))), (m2, .inl (cI, 12, .inl (fun _ => (0 : Int32)))), (m3, .inl (cI, 12, .inl (fun _ => (0 : Int32)))), (m4, .inl (cI, 24, .inl (fun _ => (-1 : Int32)))), (m5, .inl (cZ, 12, .inl (fun _ => (0 : Int32)))), (m13, .inl (cZ, 40, .inl (fun _ => (0 : Int32))))]) hK hN [0, 1, 2, 3, 4, 5, 7] rfl (by decide)) gX6_digest_X6_wouldDropNow rfl rfl kd_X6_wouldDropNow ⟨by decide, by decide⟩ (st := [.long (6423413834745955213 : Int64)]) rfl (Nat.le_of_ble_eq_true rfl) dX6_digest_219 ⟨by decide, by decide⟩) hA (fun _ h => h) [0, 1, 2, 3, 4, 5, 7] [6] (wr := [(m7, .inl (cI, 12, .inl (fun _ => (1 : Int32))))]) rfl rfl (by decide) (by decide) [1, 2, 3, 4, 5, 6, 0, 7] (by decide) (fun _ => rfl) (fun u hu => ?_)
  refine g_i2l (v := (0 : Int64)) B dX6_digest_222 (by decide) ?_
  refine g_ladd (v := (6423413834745955213 : Int64)) B dX6_digest_223 (by decide) ?_
  refine g_lstore_n (lv' := [(0, .ref hm), (1, .long (6423413834745955213 : Int64)), (3, .int (3 : Int32)), (4, .int (3 : Int32))]) B dX6_digest_224 rfl (by decide) [1, 0, 2, 3] rfl ?_
  refine g_iinc (lv' := [(0, .ref hm), (1, .long (6423413834745955213 : Int64)), (3, .int (4 : Int32)), (4, .int (3 : Int32))]) B dX6_digest_225 2 rfl (by decide) (by decide) [1, 2, 0, 3] rfl ?_
  refine g_goto (tgt := 181) B dX6_digest_228 (by decide) ?_
  refine g_iload_n B dX6_digest_181 2 rfl ?_
  refine g_bipush (v := (10 : Int32)) B dX6_digest_182 (by decide) ?_
  refine g_icmp_ge (tgt := 231) B dX6_digest_184 (by decide) (fun c235 => absurd c235 (by decide)) (fun _ => ?_)
  refine g_lload_n B dX6_digest_187 1 rfl ?_
  refine g_ldc2 (v := (31 : Int64)) B dX6_digest_188 (List.mem_of_getElem? (i := 3) rfl) ?_
  refine g_lmul (v := (-3788355933680456173 : Int64)) B dX6_digest_191 (by decide) ?_
  refine g_aload_n B dX6_digest_192 0 rfl ?_
  refine g_iload_n B dX6_digest_193 2 rfl ?_
  refine g_callW (w2 := (fun (_ : Unit) => [(hm, .inr (6, [.int (0 : Int32), .ref m1, .ref m2, .ref m3, .ref m4, .ref m5, .int (1 : Int32), .ref m7, .int (0 : Int32), .ref m9, .ref m10, .ref m11, .ref m12, .ref m13, .int (0 : Int32), .ref m15, .ref m16, .ref m17])), (m1, .inl (cI, 12, .inl (fun _ => (0 : Int32)))), (m2, .inl (cI, 12, .inl (fun _ => (0 : Int32)))), (m3, .inl (cI, 12, .inl (fun _ => (0 : Int32)))), (m4, .inl (cI, 24, .inl (fun _ => (-1 : Int32)))), (m5, .inl (cZ, 12, .inl (fun _ => (0 : Int32)))), (m7, .inl (cI, 12, .inl (fun _ => (1 : Int32)))), (m13, .inl (cZ, 40, .inl (fun _ => (0 : Int32))))])) (g_runV (q0 := 0) (ci := 6) B hK rfl rfl (r_resultOf l (D := D) (cI := cI) (cL := cL) (cZ := cZ) hm m1 m2 m3 m4 m5 m7 m9 m10 m11 m12 m13 m15 m16 m17 (0 : Int32) (1 : Int32) (0 : Int32) (0 : Int32) 4 (by omega)) (gPw.pre (av := [.ref hm, .int (4 : Int32)]) (wc := [(hm, .inr (6, [.int (0 : Int32), .ref m1, .ref m2, .ref m3, .ref m4, .ref m5, .int (1 : Int32), .ref m7, .int (0 : Int32), .ref m9, .ref m10, .ref m11, .ref m12, .ref m13, .int (0 : Int32), .ref m15, .ref m16, .ref m17])), (m1, .inl (cI, 12, .inl (fun _ => (0 : Int32)))), (m2, .inl (cI, 12, .inl (fun _ => (0 : Int32)))), (m3, .inl (cI, 12, .inl (fun _ => (0 : Int32)))), (m4, .inl (cI, 24, .inl (fun _ => (-1 : Int32)))), (m5, .inl (cZ, 12, .inl (fun _ => (0 : Int32))))]) hK hN [0, 1, 2, 3, 4, 5] rfl (by decide)) gX6_digest_X6_resultOf rfl rfl kd_X6_resultOf ⟨by decide, by decide⟩ (st := [.long (-3788355933680456173 : Int64)]) rfl (Nat.le_of_ble_eq_true rfl) dX6_digest_194 ⟨by decide, by decide⟩) hA (fun _ h => h) [0, 1, 2, 3, 4, 5] [6, 7] (wr := [(m7, .inl (cI, 12, .inl (fun _ => (1 : Int32)))), (m13, .inl (cZ, 40, .inl (fun _ => (0 : Int32))))]) rfl rfl (by decide) (by decide) [2, 3, 4, 5, 6, 7, 0, 1] (by decide) (fun _ => rfl) (fun u hu => ?_)
  refine g_i2l (v := (1 : Int64)) B dX6_digest_197 (by decide) ?_
  refine g_ladd (v := (-3788355933680456172 : Int64)) B dX6_digest_198 (by decide) ?_
  refine g_ldc2 (v := (31 : Int64)) B dX6_digest_199 (List.mem_of_getElem? (i := 3) rfl) ?_
  refine g_lmul (v := (-6758569501836831636 : Int64)) B dX6_digest_202 (by decide) ?_
  refine g_aload_n B dX6_digest_203 0 rfl ?_
  refine g_iload_n B dX6_digest_204 2 rfl ?_
  refine g_callW (w2 := (fun (_ : Unit) => [(hm, .inr (6, [.int (0 : Int32), .ref m1, .ref m2, .ref m3, .ref m4, .ref m5, .int (1 : Int32), .ref m7, .int (0 : Int32), .ref m9, .ref m10, .ref m11, .ref m12, .ref m13, .int (0 : Int32), .ref m15, .ref m16, .ref m17])), (m1, .inl (cI, 12, .inl (fun _ => (0 : Int32)))), (m2, .inl (cI, 12, .inl (fun _ => (0 : Int32)))), (m3, .inl (cI, 12, .inl (fun _ => (0 : Int32)))), (m4, .inl (cI, 24, .inl (fun _ => (-1 : Int32)))), (m5, .inl (cZ, 12, .inl (fun _ => (0 : Int32)))), (m7, .inl (cI, 12, .inl (fun _ => (1 : Int32)))), (m13, .inl (cZ, 40, .inl (fun _ => (0 : Int32))))])) (g_runV (q0 := 0) (ci := 6) B hK rfl rfl (r_edgesOf l (D := D) (cI := cI) (cL := cL) (cZ := cZ) hm m1 m2 m3 m4 m5 m7 m9 m10 m11 m12 m13 m15 m16 m17 (0 : Int32) (1 : Int32) (0 : Int32) (0 : Int32) 4 (by omega)) (gPw.pre (av := [.ref hm, .int (4 : Int32)]) (wc := [(hm, .inr (6, [.int (0 : Int32), .ref m1, .ref m2, .ref m3, .ref m4, .ref m5, .int (1 : Int32), .ref m7, .int (0 : Int32), .ref m9, .ref m10, .ref m11, .ref m12, .ref m13, .int (0 : Int32), .ref m15, .ref m16, .ref m17])), (m1, .inl (cI, 12, .inl (fun _ => (0 : Int32)))), (m2, .inl (cI, 12, .inl (fun _ => (0 : Int32)))), (m3, .inl (cI, 12, .inl (fun _ => (0 : Int32)))), (m4, .inl (cI, 24, .inl (fun _ => (-1 : Int32)))), (m5, .inl (cZ, 12, .inl (fun _ => (0 : Int32))))]) hK hN [0, 1, 2, 3, 4, 5] rfl (by decide)) gX6_digest_X6_edgesOf rfl rfl kd_X6_edgesOf ⟨by decide, by decide⟩ (st := [.long (-6758569501836831636 : Int64)]) rfl (Nat.le_of_ble_eq_true rfl) dX6_digest_205 ⟨by decide, by decide⟩) hA (fun _ h => h) [0, 1, 2, 3, 4, 5] [6, 7] (wr := [(m7, .inl (cI, 12, .inl (fun _ => (1 : Int32)))), (m13, .inl (cZ, 40, .inl (fun _ => (0 : Int32))))]) rfl rfl (by decide) (by decide) [2, 3, 4, 5, 6, 7, 0, 1] (by decide) (fun _ => rfl) (fun u hu => ?_)
  refine g_callP (g_runS B (PM.met (r_count_2 l (D := D) (cI := cI) (cL := cL) (cZ := cZ)  )) (gPp.pre (av := [.int (2 : Int32)]) (wc := []) hK hN [] rfl (by decide)) gX6_digest_X6_count rfl kd_X6_count ⟨by decide, by decide⟩ (st := [.long (-6758569501836831636 : Int64)]) rfl (Nat.le_of_ble_eq_true rfl) dX6_digest_208 ⟨by decide, by decide⟩) (fun u hu => ?_)
  refine g_i2l (v := (1 : Int64)) B dX6_digest_211 (by decide) ?_
  refine g_ladd (v := (-6758569501836831635 : Int64)) B dX6_digest_212 (by decide) ?_
  refine g_ldc2 (v := (31 : Int64)) B dX6_digest_213 (List.mem_of_getElem? (i := 3) rfl) ?_
  refine g_lmul (v := (-6601469746136712909 : Int64)) B dX6_digest_216 (by decide) ?_
  refine g_aload_n B dX6_digest_217 0 rfl ?_
  refine g_iload_n B dX6_digest_218 2 rfl ?_
  refine g_callW (w2 := (fun (_ : Unit) => [(hm, .inr (6, [.int (0 : Int32), .ref m1, .ref m2, .ref m3, .ref m4, .ref m5, .int (1 : Int32), .ref m7, .int (0 : Int32), .ref m9, .ref m10, .ref m11, .ref m12, .ref m13, .int (0 : Int32), .ref m15, .ref m16, .ref m17])), (m1, .inl (cI, 12, .inl (fun _ => (0 : Int32)))), (m2, .inl (cI, 12, .inl (fun _ => (0 : Int32)))), (m3, .inl (cI, 12, .inl (fun _ => (0 : Int32)))), (m4, .inl (cI, 24, .inl (fun _ => (-1 : Int32)))), (m5, .inl (cZ, 12, .inl (fun _ => (0 : Int32)))), (m7, .inl (cI, 12, .inl (fun _ => (1 : Int32)))), (m13, .inl (cZ, 40, .inl (fun _ => (0 : Int32))))])) (g_runV (q0 := 0) (ci := 6) B hK rfl rfl (r_wouldDropNow l (D := D) (cI := cI) (cL := cL) (cZ := cZ) hm m1 m2 m3 m4 m5 m7 m9 m10 m11 m12 m13 m15 m16 m17 (0 : Int32) (1 : Int32) (0 : Int32) 4 (by omega)) (gPw.pre (av := [.ref hm, .int (4 : Int32)]) (wc := [(hm, .inr (6, [.int (0 : Int32), .ref m1, .ref m2, .ref m3, .ref m4, .ref m5, .int (1 : Int32), .ref m7, .int (0 : Int32), .ref m9, .ref m10, .ref m11, .ref m12, .ref m13, .int (0 : Int32), .ref m15, .ref m16, .ref m17])), (m1, .inl (cI, 12, .inl (fun _ => (0 : Int32)))), (m2, .inl (cI, 12, .inl (fun _ => (0 : Int32)))), (m3, .inl (cI, 12, .inl (fun _ => (0 : Int32)))), (m4, .inl (cI, 24, .inl (fun _ => (-1 : Int32)))), (m5, .inl (cZ, 12, .inl (fun _ => (0 : Int32)))), (m13, .inl (cZ, 40, .inl (fun _ => (0 : Int32))))]) hK hN [0, 1, 2, 3, 4, 5, 7] rfl (by decide)) gX6_digest_X6_wouldDropNow rfl rfl kd_X6_wouldDropNow ⟨by decide, by decide⟩ (st := [.long (-6601469746136712909 : Int64)]) rfl (Nat.le_of_ble_eq_true rfl) dX6_digest_219 ⟨by decide, by decide⟩) hA (fun _ h => h) [0, 1, 2, 3, 4, 5, 7] [6] (wr := [(m7, .inl (cI, 12, .inl (fun _ => (1 : Int32))))]) rfl rfl (by decide) (by decide) [1, 2, 3, 4, 5, 6, 0, 7] (by decide) (fun _ => rfl) (fun u hu => ?_)
  refine g_i2l (v := (0 : Int64)) B dX6_digest_222 (by decide) ?_
  refine g_ladd (v := (-6601469746136712909 : Int64)) B dX6_digest_223 (by decide) ?_
  refine g_lstore_n (lv' := [(0, .ref hm), (1, .long (-6601469746136712909 : Int64)), (3, .int (4 : Int32)), (4, .int (3 : Int32))]) B dX6_digest_224 rfl (by decide) [1, 0, 2, 3] rfl ?_
  refine g_iinc (lv' := [(0, .ref hm), (1, .long (-6601469746136712909 : Int64)), (3, .int (5 : Int32)), (4, .int (3 : Int32))]) B dX6_digest_225 2 rfl (by decide) (by decide) [1, 2, 0, 3] rfl ?_
  refine g_goto (tgt := 181) B dX6_digest_228 (by decide) ?_
  refine g_iload_n B dX6_digest_181 2 rfl ?_
  refine g_bipush (v := (10 : Int32)) B dX6_digest_182 (by decide) ?_
  refine g_icmp_ge (tgt := 231) B dX6_digest_184 (by decide) (fun c240 => absurd c240 (by decide)) (fun _ => ?_)
  refine g_lload_n B dX6_digest_187 1 rfl ?_
  refine g_ldc2 (v := (31 : Int64)) B dX6_digest_188 (List.mem_of_getElem? (i := 3) rfl) ?_
  refine g_lmul (v := (-1731377319433032403 : Int64)) B dX6_digest_191 (by decide) ?_
  refine g_aload_n B dX6_digest_192 0 rfl ?_
  refine g_iload_n B dX6_digest_193 2 rfl ?_
  refine g_callW (w2 := (fun (_ : Unit) => [(hm, .inr (6, [.int (0 : Int32), .ref m1, .ref m2, .ref m3, .ref m4, .ref m5, .int (1 : Int32), .ref m7, .int (0 : Int32), .ref m9, .ref m10, .ref m11, .ref m12, .ref m13, .int (0 : Int32), .ref m15, .ref m16, .ref m17])), (m1, .inl (cI, 12, .inl (fun _ => (0 : Int32)))), (m2, .inl (cI, 12, .inl (fun _ => (0 : Int32)))), (m3, .inl (cI, 12, .inl (fun _ => (0 : Int32)))), (m4, .inl (cI, 24, .inl (fun _ => (-1 : Int32)))), (m5, .inl (cZ, 12, .inl (fun _ => (0 : Int32)))), (m7, .inl (cI, 12, .inl (fun _ => (1 : Int32)))), (m13, .inl (cZ, 40, .inl (fun _ => (0 : Int32))))])) (g_runV (q0 := 0) (ci := 6) B hK rfl rfl (r_resultOf l (D := D) (cI := cI) (cL := cL) (cZ := cZ) hm m1 m2 m3 m4 m5 m7 m9 m10 m11 m12 m13 m15 m16 m17 (0 : Int32) (1 : Int32) (0 : Int32) (0 : Int32) 5 (by omega)) (gPw.pre (av := [.ref hm, .int (5 : Int32)]) (wc := [(hm, .inr (6, [.int (0 : Int32), .ref m1, .ref m2, .ref m3, .ref m4, .ref m5, .int (1 : Int32), .ref m7, .int (0 : Int32), .ref m9, .ref m10, .ref m11, .ref m12, .ref m13, .int (0 : Int32), .ref m15, .ref m16, .ref m17])), (m1, .inl (cI, 12, .inl (fun _ => (0 : Int32)))), (m2, .inl (cI, 12, .inl (fun _ => (0 : Int32)))), (m3, .inl (cI, 12, .inl (fun _ => (0 : Int32)))), (m4, .inl (cI, 24, .inl (fun _ => (-1 : Int32)))), (m5, .inl (cZ, 12, .inl (fun _ => (0 : Int32))))]) hK hN [0, 1, 2, 3, 4, 5] rfl (by decide)) gX6_digest_X6_resultOf rfl rfl kd_X6_resultOf ⟨by decide, by decide⟩ (st := [.long (-1731377319433032403 : Int64)]) rfl (Nat.le_of_ble_eq_true rfl) dX6_digest_194 ⟨by decide, by decide⟩) hA (fun _ h => h) [0, 1, 2, 3, 4, 5] [6, 7] (wr := [(m7, .inl (cI, 12, .inl (fun _ => (1 : Int32)))), (m13, .inl (cZ, 40, .inl (fun _ => (0 : Int32))))]) rfl rfl (by decide) (by decide) [2, 3, 4, 5, 6, 7, 0, 1] (by decide) (fun _ => rfl) (fun u hu => ?_)
  refine g_i2l (v := (1 : Int64)) B dX6_digest_197 (by decide) ?_
  refine g_ladd (v := (-1731377319433032402 : Int64)) B dX6_digest_198 (by decide) ?_
  refine g_ldc2 (v := (31 : Int64)) B dX6_digest_199 (List.mem_of_getElem? (i := 3) rfl) ?_
  refine g_lmul (v := (1667535318704650386 : Int64)) B dX6_digest_202 (by decide) ?_
  refine g_aload_n B dX6_digest_203 0 rfl ?_
  refine g_iload_n B dX6_digest_204 2 rfl ?_
  refine g_callW (w2 := (fun (_ : Unit) => [(hm, .inr (6, [.int (0 : Int32), .ref m1, .ref m2, .ref m3, .ref m4, .ref m5, .int (1 : Int32), .ref m7, .int (0 : Int32), .ref m9, .ref m10, .ref m11, .ref m12, .ref m13, .int (0 : Int32), .ref m15, .ref m16, .ref m17])), (m1, .inl (cI, 12, .inl (fun _ => (0 : Int32)))), (m2, .inl (cI, 12, .inl (fun _ => (0 : Int32)))), (m3, .inl (cI, 12, .inl (fun _ => (0 : Int32)))), (m4, .inl (cI, 24, .inl (fun _ => (-1 : Int32)))), (m5, .inl (cZ, 12, .inl (fun _ => (0 : Int32)))), (m7, .inl (cI, 12, .inl (fun _ => (1 : Int32)))), (m13, .inl (cZ, 40, .inl (fun _ => (0 : Int32))))])) (g_runV (q0 := 0) (ci := 6) B hK rfl rfl (r_edgesOf l (D := D) (cI := cI) (cL := cL) (cZ := cZ) hm m1 m2 m3 m4 m5 m7 m9 m10 m11 m12 m13 m15 m16 m17 (0 : Int32) (1 : Int32) (0 : Int32) (0 : Int32) 5 (by omega)) (gPw.pre (av := [.ref hm, .int (5 : Int32)]) (wc := [(hm, .inr (6, [.int (0 : Int32), .ref m1, .ref m2, .ref m3, .ref m4, .ref m5, .int (1 : Int32), .ref m7, .int (0 : Int32), .ref m9, .ref m10, .ref m11, .ref m12, .ref m13, .int (0 : Int32), .ref m15, .ref m16, .ref m17])), (m1, .inl (cI, 12, .inl (fun _ => (0 : Int32)))), (m2, .inl (cI, 12, .inl (fun _ => (0 : Int32)))), (m3, .inl (cI, 12, .inl (fun _ => (0 : Int32)))), (m4, .inl (cI, 24, .inl (fun _ => (-1 : Int32)))), (m5, .inl (cZ, 12, .inl (fun _ => (0 : Int32))))]) hK hN [0, 1, 2, 3, 4, 5] rfl (by decide)) gX6_digest_X6_edgesOf rfl rfl kd_X6_edgesOf ⟨by decide, by decide⟩ (st := [.long (1667535318704650386 : Int64)]) rfl (Nat.le_of_ble_eq_true rfl) dX6_digest_205 ⟨by decide, by decide⟩) hA (fun _ h => h) [0, 1, 2, 3, 4, 5] [6, 7] (wr := [(m7, .inl (cI, 12, .inl (fun _ => (1 : Int32)))), (m13, .inl (cZ, 40, .inl (fun _ => (0 : Int32))))]) rfl rfl (by decide) (by decide) [2, 3, 4, 5, 6, 7, 0, 1] (by decide) (fun _ => rfl) (fun u hu => ?_)
  refine g_callP (g_runS B (PM.met (r_count_2 l (D := D) (cI := cI) (cL := cL) (cZ := cZ)  )) (gPp.pre (av := [.int (2 : Int32)]) (wc := []) hK hN [] rfl (by decide)) gX6_digest_X6_count rfl kd_X6_count ⟨by decide, by decide⟩ (st := [.long (1667535318704650386 : Int64)]) rfl (Nat.le_of_ble_eq_true rfl) dX6_digest_208 ⟨by decide, by decide⟩) (fun u hu => ?_)
  refine g_i2l (v := (1 : Int64)) B dX6_digest_211 (by decide) ?_
  refine g_ladd (v := (1667535318704650387 : Int64)) B dX6_digest_212 (by decide) ?_
  refine g_ldc2 (v := (31 : Int64)) B dX6_digest_213 (List.mem_of_getElem? (i := 3) rfl) ?_
  refine g_lmul (v := (-3646637341284492851 : Int64)) B dX6_digest_216 (by decide) ?_
  refine g_aload_n B dX6_digest_217 0 rfl ?_
  refine g_iload_n B dX6_digest_218 2 rfl ?_
  refine g_callW (w2 := (fun (_ : Unit) => [(hm, .inr (6, [.int (0 : Int32), .ref m1, .ref m2, .ref m3, .ref m4, .ref m5, .int (1 : Int32), .ref m7, .int (0 : Int32), .ref m9, .ref m10, .ref m11, .ref m12, .ref m13, .int (0 : Int32), .ref m15, .ref m16, .ref m17])), (m1, .inl (cI, 12, .inl (fun _ => (0 : Int32)))), (m2, .inl (cI, 12, .inl (fun _ => (0 : Int32)))), (m3, .inl (cI, 12, .inl (fun _ => (0 : Int32)))), (m4, .inl (cI, 24, .inl (fun _ => (-1 : Int32)))), (m5, .inl (cZ, 12, .inl (fun _ => (0 : Int32)))), (m7, .inl (cI, 12, .inl (fun _ => (1 : Int32)))), (m13, .inl (cZ, 40, .inl (fun _ => (0 : Int32))))])) (g_runV (q0 := 0) (ci := 6) B hK rfl rfl (r_wouldDropNow l (D := D) (cI := cI) (cL := cL) (cZ := cZ) hm m1 m2 m3 m4 m5 m7 m9 m10 m11 m12 m13 m15 m16 m17 (0 : Int32) (1 : Int32) (0 : Int32) 5 (by omega)) (gPw.pre (av := [.ref hm, .int (5 : Int32)]) (wc := [(hm, .inr (6, [.int (0 : Int32), .ref m1, .ref m2, .ref m3, .ref m4, .ref m5, .int (1 : Int32), .ref m7, .int (0 : Int32), .ref m9, .ref m10, .ref m11, .ref m12, .ref m13, .int (0 : Int32), .ref m15, .ref m16, .ref m17])), (m1, .inl (cI, 12, .inl (fun _ => (0 : Int32)))), (m2, .inl (cI, 12, .inl (fun _ => (0 : Int32)))), (m3, .inl (cI, 12, .inl (fun _ => (0 : Int32)))), (m4, .inl (cI, 24, .inl (fun _ => (-1 : Int32)))), (m5, .inl (cZ, 12, .inl (fun _ => (0 : Int32)))), (m13, .inl (cZ, 40, .inl (fun _ => (0 : Int32))))]) hK hN [0, 1, 2, 3, 4, 5, 7] rfl (by decide)) gX6_digest_X6_wouldDropNow rfl rfl kd_X6_wouldDropNow ⟨by decide, by decide⟩ (st := [.long (-3646637341284492851 : Int64)]) rfl (Nat.le_of_ble_eq_true rfl) dX6_digest_219 ⟨by decide, by decide⟩) hA (fun _ h => h) [0, 1, 2, 3, 4, 5, 7] [6] (wr := [(m7, .inl (cI, 12, .inl (fun _ => (1 : Int32))))]) rfl rfl (by decide) (by decide) [1, 2, 3, 4, 5, 6, 0, 7] (by decide) (fun _ => rfl) (fun u hu => ?_)
  refine g_i2l (v := (0 : Int64)) B dX6_digest_222 (by decide) ?_
  refine g_ladd (v := (-3646637341284492851 : Int64)) B dX6_digest_223 (by decide) ?_
  refine g_lstore_n (lv' := [(0, .ref hm), (1, .long (-3646637341284492851 : Int64)), (3, .int (5 : Int32)), (4, .int (3 : Int32))]) B dX6_digest_224 rfl (by decide) [1, 0, 2, 3] rfl ?_
  refine g_iinc (lv' := [(0, .ref hm), (1, .long (-3646637341284492851 : Int64)), (3, .int (6 : Int32)), (4, .int (3 : Int32))]) B dX6_digest_225 2 rfl (by decide) (by decide) [1, 2, 0, 3] rfl ?_
  refine g_goto (tgt := 181) B dX6_digest_228 (by decide) ?_
  refine g_iload_n B dX6_digest_181 2 rfl ?_
  refine g_bipush (v := (10 : Int32)) B dX6_digest_182 (by decide) ?_
  refine g_icmp_ge (tgt := 231) B dX6_digest_184 (by decide) (fun c245 => absurd c245 (by decide)) (fun _ => ?_)
  refine g_lload_n B dX6_digest_187 1 rfl ?_
  refine g_ldc2 (v := (31 : Int64)) B dX6_digest_188 (List.mem_of_getElem? (i := 3) rfl) ?_
  refine g_lmul (v := (-2365293137561968685 : Int64)) B dX6_digest_191 (by decide) ?_
  refine g_aload_n B dX6_digest_192 0 rfl ?_
  refine g_iload_n B dX6_digest_193 2 rfl ?_
  refine g_callW (w2 := (fun (_ : Unit) => [(hm, .inr (6, [.int (0 : Int32), .ref m1, .ref m2, .ref m3, .ref m4, .ref m5, .int (1 : Int32), .ref m7, .int (0 : Int32), .ref m9, .ref m10, .ref m11, .ref m12, .ref m13, .int (0 : Int32), .ref m15, .ref m16, .ref m17])), (m1, .inl (cI, 12, .inl (fun _ => (0 : Int32)))), (m2, .inl (cI, 12, .inl (fun _ => (0 : Int32)))), (m3, .inl (cI, 12, .inl (fun _ => (0 : Int32)))), (m4, .inl (cI, 24, .inl (fun _ => (-1 : Int32)))), (m5, .inl (cZ, 12, .inl (fun _ => (0 : Int32)))), (m7, .inl (cI, 12, .inl (fun _ => (1 : Int32)))), (m13, .inl (cZ, 40, .inl (fun _ => (0 : Int32))))])) (g_runV (q0 := 0) (ci := 6) B hK rfl rfl (r_resultOf l (D := D) (cI := cI) (cL := cL) (cZ := cZ) hm m1 m2 m3 m4 m5 m7 m9 m10 m11 m12 m13 m15 m16 m17 (0 : Int32) (1 : Int32) (0 : Int32) (0 : Int32) 6 (by omega)) (gPw.pre (av := [.ref hm, .int (6 : Int32)]) (wc := [(hm, .inr (6, [.int (0 : Int32), .ref m1, .ref m2, .ref m3, .ref m4, .ref m5, .int (1 : Int32), .ref m7, .int (0 : Int32), .ref m9, .ref m10, .ref m11, .ref m12, .ref m13, .int (0 : Int32), .ref m15, .ref m16, .ref m17])), (m1, .inl (cI, 12, .inl (fun _ => (0 : Int32)))), (m2, .inl (cI, 12, .inl (fun _ => (0 : Int32)))), (m3, .inl (cI, 12, .inl (fun _ => (0 : Int32)))), (m4, .inl (cI, 24, .inl (fun _ => (-1 : Int32)))), (m5, .inl (cZ, 12, .inl (fun _ => (0 : Int32))))]) hK hN [0, 1, 2, 3, 4, 5] rfl (by decide)) gX6_digest_X6_resultOf rfl rfl kd_X6_resultOf ⟨by decide, by decide⟩ (st := [.long (-2365293137561968685 : Int64)]) rfl (Nat.le_of_ble_eq_true rfl) dX6_digest_194 ⟨by decide, by decide⟩) hA (fun _ h => h) [0, 1, 2, 3, 4, 5] [6, 7] (wr := [(m7, .inl (cI, 12, .inl (fun _ => (1 : Int32)))), (m13, .inl (cZ, 40, .inl (fun _ => (0 : Int32))))]) rfl rfl (by decide) (by decide) [2, 3, 4, 5, 6, 7, 0, 1] (by decide) (fun _ => rfl) (fun u hu => ?_)
  refine g_i2l (v := (1 : Int64)) B dX6_digest_197 (by decide) ?_
  refine g_ladd (v := (-2365293137561968684 : Int64)) B dX6_digest_198 (by decide) ?_
  refine g_ldc2 (v := (31 : Int64)) B dX6_digest_199 (List.mem_of_getElem? (i := 3) rfl) ?_
  refine g_lmul (v := (462889030417177260 : Int64)) B dX6_digest_202 (by decide) ?_
  refine g_aload_n B dX6_digest_203 0 rfl ?_
  refine g_iload_n B dX6_digest_204 2 rfl ?_
  refine g_callW (w2 := (fun (_ : Unit) => [(hm, .inr (6, [.int (0 : Int32), .ref m1, .ref m2, .ref m3, .ref m4, .ref m5, .int (1 : Int32), .ref m7, .int (0 : Int32), .ref m9, .ref m10, .ref m11, .ref m12, .ref m13, .int (0 : Int32), .ref m15, .ref m16, .ref m17])), (m1, .inl (cI, 12, .inl (fun _ => (0 : Int32)))), (m2, .inl (cI, 12, .inl (fun _ => (0 : Int32)))), (m3, .inl (cI, 12, .inl (fun _ => (0 : Int32)))), (m4, .inl (cI, 24, .inl (fun _ => (-1 : Int32)))), (m5, .inl (cZ, 12, .inl (fun _ => (0 : Int32)))), (m7, .inl (cI, 12, .inl (fun _ => (1 : Int32)))), (m13, .inl (cZ, 40, .inl (fun _ => (0 : Int32))))])) (g_runV (q0 := 0) (ci := 6) B hK rfl rfl (r_edgesOf l (D := D) (cI := cI) (cL := cL) (cZ := cZ) hm m1 m2 m3 m4 m5 m7 m9 m10 m11 m12 m13 m15 m16 m17 (0 : Int32) (1 : Int32) (0 : Int32) (0 : Int32) 6 (by omega)) (gPw.pre (av := [.ref hm, .int (6 : Int32)]) (wc := [(hm, .inr (6, [.int (0 : Int32), .ref m1, .ref m2, .ref m3, .ref m4, .ref m5, .int (1 : Int32), .ref m7, .int (0 : Int32), .ref m9, .ref m10, .ref m11, .ref m12, .ref m13, .int (0 : Int32), .ref m15, .ref m16, .ref m17])), (m1, .inl (cI, 12, .inl (fun _ => (0 : Int32)))), (m2, .inl (cI, 12, .inl (fun _ => (0 : Int32)))), (m3, .inl (cI, 12, .inl (fun _ => (0 : Int32)))), (m4, .inl (cI, 24, .inl (fun _ => (-1 : Int32)))), (m5, .inl (cZ, 12, .inl (fun _ => (0 : Int32))))]) hK hN [0, 1, 2, 3, 4, 5] rfl (by decide)) gX6_digest_X6_edgesOf rfl rfl kd_X6_edgesOf ⟨by decide, by decide⟩ (st := [.long (462889030417177260 : Int64)]) rfl (Nat.le_of_ble_eq_true rfl) dX6_digest_205 ⟨by decide, by decide⟩) hA (fun _ h => h) [0, 1, 2, 3, 4, 5] [6, 7] (wr := [(m7, .inl (cI, 12, .inl (fun _ => (1 : Int32)))), (m13, .inl (cZ, 40, .inl (fun _ => (0 : Int32))))]) rfl rfl (by decide) (by decide) [2, 3, 4, 5, 6, 7, 0, 1] (by decide) (fun _ => rfl) (fun u hu => ?_)
  refine g_callP (g_runS B (PM.met (r_count_2 l (D := D) (cI := cI) (cL := cL) (cZ := cZ)  )) (gPp.pre (av := [.int (2 : Int32)]) (wc := []) hK hN [] rfl (by decide)) gX6_digest_X6_count rfl kd_X6_count ⟨by decide, by decide⟩ (st := [.long (462889030417177260 : Int64)]) rfl (Nat.le_of_ble_eq_true rfl) dX6_digest_208 ⟨by decide, by decide⟩) (fun u hu => ?_)
  refine g_i2l (v := (1 : Int64)) B dX6_digest_211 (by decide) ?_
  refine g_ladd (v := (462889030417177261 : Int64)) B dX6_digest_212 (by decide) ?_
  refine g_ldc2 (v := (31 : Int64)) B dX6_digest_213 (List.mem_of_getElem? (i := 3) rfl) ?_
  refine g_lmul (v := (-4097184130777056525 : Int64)) B dX6_digest_216 (by decide) ?_
  refine g_aload_n B dX6_digest_217 0 rfl ?_
  refine g_iload_n B dX6_digest_218 2 rfl ?_
  refine g_callW (w2 := (fun (_ : Unit) => [(hm, .inr (6, [.int (0 : Int32), .ref m1, .ref m2, .ref m3, .ref m4, .ref m5, .int (1 : Int32), .ref m7, .int (0 : Int32), .ref m9, .ref m10, .ref m11, .ref m12, .ref m13, .int (0 : Int32), .ref m15, .ref m16, .ref m17])), (m1, .inl (cI, 12, .inl (fun _ => (0 : Int32)))), (m2, .inl (cI, 12, .inl (fun _ => (0 : Int32)))), (m3, .inl (cI, 12, .inl (fun _ => (0 : Int32)))), (m4, .inl (cI, 24, .inl (fun _ => (-1 : Int32)))), (m5, .inl (cZ, 12, .inl (fun _ => (0 : Int32)))), (m7, .inl (cI, 12, .inl (fun _ => (1 : Int32)))), (m13, .inl (cZ, 40, .inl (fun _ => (0 : Int32))))])) (g_runV (q0 := 0) (ci := 6) B hK rfl rfl (r_wouldDropNow l (D := D) (cI := cI) (cL := cL) (cZ := cZ) hm m1 m2 m3 m4 m5 m7 m9 m10 m11 m12 m13 m15 m16 m17 (0 : Int32) (1 : Int32) (0 : Int32) 6 (by omega)) (gPw.pre (av := [.ref hm, .int (6 : Int32)]) (wc := [(hm, .inr (6, [.int (0 : Int32), .ref m1, .ref m2, .ref m3, .ref m4, .ref m5, .int (1 : Int32), .ref m7, .int (0 : Int32), .ref m9, .ref m10, .ref m11, .ref m12, .ref m13, .int (0 : Int32), .ref m15, .ref m16, .ref m17])), (m1, .inl (cI, 12, .inl (fun _ => (0 : Int32)))), (m2, .inl (cI, 12, .inl (fun _ => (0 : Int32)))), (m3, .inl (cI, 12, .inl (fun _ => (0 : Int32)))), (m4, .inl (cI, 24, .inl (fun _ => (-1 : Int32)))), (m5, .inl (cZ, 12, .inl (fun _ => (0 : Int32)))), (m13, .inl (cZ, 40, .inl (fun _ => (0 : Int32))))]) hK hN [0, 1, 2, 3, 4, 5, 7] rfl (by decide)) gX6_digest_X6_wouldDropNow rfl rfl kd_X6_wouldDropNow ⟨by decide, by decide⟩ (st := [.long (-4097184130777056525 : Int64)]) rfl (Nat.le_of_ble_eq_true rfl) dX6_digest_219 ⟨by decide, by decide⟩) hA (fun _ h => h) [0, 1, 2, 3, 4, 5, 7] [6] (wr := [(m7, .inl (cI, 12, .inl (fun _ => (1 : Int32))))]) rfl rfl (by decide) (by decide) [1, 2, 3, 4, 5, 6, 0, 7] (by decide) (fun _ => rfl) (fun u hu => ?_)
  refine g_i2l (v := (0 : Int64)) B dX6_digest_222 (by decide) ?_
  refine g_ladd (v := (-4097184130777056525 : Int64)) B dX6_digest_223 (by decide) ?_
  refine g_lstore_n (lv' := [(0, .ref hm), (1, .long (-4097184130777056525 : Int64)), (3, .int (6 : Int32)), (4, .int (3 : Int32))]) B dX6_digest_224 rfl (by decide) [1, 0, 2, 3] rfl ?_
  refine g_iinc (lv' := [(0, .ref hm), (1, .long (-4097184130777056525 : Int64)), (3, .int (7 : Int32)), (4, .int (3 : Int32))]) B dX6_digest_225 2 rfl (by decide) (by decide) [1, 2, 0, 3] rfl ?_
  refine g_goto (tgt := 181) B dX6_digest_228 (by decide) ?_
  refine g_iload_n B dX6_digest_181 2 rfl ?_
  refine g_bipush (v := (10 : Int32)) B dX6_digest_182 (by decide) ?_
  refine g_icmp_ge (tgt := 231) B dX6_digest_184 (by decide) (fun c250 => absurd c250 (by decide)) (fun _ => ?_)
  refine g_lload_n B dX6_digest_187 1 rfl ?_
  refine g_ldc2 (v := (31 : Int64)) B dX6_digest_188 (List.mem_of_getElem? (i := 3) rfl) ?_
  refine g_lmul (v := (2114500461878109037 : Int64)) B dX6_digest_191 (by decide) ?_
  refine g_aload_n B dX6_digest_192 0 rfl ?_
  refine g_iload_n B dX6_digest_193 2 rfl ?_
  refine g_callW (w2 := (fun (_ : Unit) => [(hm, .inr (6, [.int (0 : Int32), .ref m1, .ref m2, .ref m3, .ref m4, .ref m5, .int (1 : Int32), .ref m7, .int (0 : Int32), .ref m9, .ref m10, .ref m11, .ref m12, .ref m13, .int (0 : Int32), .ref m15, .ref m16, .ref m17])), (m1, .inl (cI, 12, .inl (fun _ => (0 : Int32)))), (m2, .inl (cI, 12, .inl (fun _ => (0 : Int32)))), (m3, .inl (cI, 12, .inl (fun _ => (0 : Int32)))), (m4, .inl (cI, 24, .inl (fun _ => (-1 : Int32)))), (m5, .inl (cZ, 12, .inl (fun _ => (0 : Int32)))), (m7, .inl (cI, 12, .inl (fun _ => (1 : Int32)))), (m13, .inl (cZ, 40, .inl (fun _ => (0 : Int32))))])) (g_runV (q0 := 0) (ci := 6) B hK rfl rfl (r_resultOf l (D := D) (cI := cI) (cL := cL) (cZ := cZ) hm m1 m2 m3 m4 m5 m7 m9 m10 m11 m12 m13 m15 m16 m17 (0 : Int32) (1 : Int32) (0 : Int32) (0 : Int32) 7 (by omega)) (gPw.pre (av := [.ref hm, .int (7 : Int32)]) (wc := [(hm, .inr (6, [.int (0 : Int32), .ref m1, .ref m2, .ref m3, .ref m4, .ref m5, .int (1 : Int32), .ref m7, .int (0 : Int32), .ref m9, .ref m10, .ref m11, .ref m12, .ref m13, .int (0 : Int32), .ref m15, .ref m16, .ref m17])), (m1, .inl (cI, 12, .inl (fun _ => (0 : Int32)))), (m2, .inl (cI, 12, .inl (fun _ => (0 : Int32)))), (m3, .inl (cI, 12, .inl (fun _ => (0 : Int32)))), (m4, .inl (cI, 24, .inl (fun _ => (-1 : Int32)))), (m5, .inl (cZ, 12, .inl (fun _ => (0 : Int32))))]) hK hN [0, 1, 2, 3, 4, 5] rfl (by decide)) gX6_digest_X6_resultOf rfl rfl kd_X6_resultOf ⟨by decide, by decide⟩ (st := [.long (2114500461878109037 : Int64)]) rfl (Nat.le_of_ble_eq_true rfl) dX6_digest_194 ⟨by decide, by decide⟩) hA (fun _ h => h) [0, 1, 2, 3, 4, 5] [6, 7] (wr := [(m7, .inl (cI, 12, .inl (fun _ => (1 : Int32)))), (m13, .inl (cZ, 40, .inl (fun _ => (0 : Int32))))]) rfl rfl (by decide) (by decide) [2, 3, 4, 5, 6, 7, 0, 1] (by decide) (fun _ => rfl) (fun u hu => ?_)
  refine g_i2l (v := (1 : Int64)) B dX6_digest_197 (by decide) ?_
  refine g_ladd (v := (2114500461878109038 : Int64)) B dX6_digest_198 (by decide) ?_
  refine g_ldc2 (v := (31 : Int64)) B dX6_digest_199 (List.mem_of_getElem? (i := 3) rfl) ?_
  refine g_lmul (v := (-8237461976616826286 : Int64)) B dX6_digest_202 (by decide) ?_
  refine g_aload_n B dX6_digest_203 0 rfl ?_
  refine g_iload_n B dX6_digest_204 2 rfl ?_
  refine g_callW (w2 := (fun (_ : Unit) => [(hm, .inr (6, [.int (0 : Int32), .ref m1, .ref m2, .ref m3, .ref m4, .ref m5, .int (1 : Int32), .ref m7, .int (0 : Int32), .ref m9, .ref m10, .ref m11, .ref m12, .ref m13, .int (0 : Int32), .ref m15, .ref m16, .ref m17])), (m1, .inl (cI, 12, .inl (fun _ => (0 : Int32)))), (m2, .inl (cI, 12, .inl (fun _ => (0 : Int32)))), (m3, .inl (cI, 12, .inl (fun _ => (0 : Int32)))), (m4, .inl (cI, 24, .inl (fun _ => (-1 : Int32)))), (m5, .inl (cZ, 12, .inl (fun _ => (0 : Int32)))), (m7, .inl (cI, 12, .inl (fun _ => (1 : Int32)))), (m13, .inl (cZ, 40, .inl (fun _ => (0 : Int32))))])) (g_runV (q0 := 0) (ci := 6) B hK rfl rfl (r_edgesOf l (D := D) (cI := cI) (cL := cL) (cZ := cZ) hm m1 m2 m3 m4 m5 m7 m9 m10 m11 m12 m13 m15 m16 m17 (0 : Int32) (1 : Int32) (0 : Int32) (0 : Int32) 7 (by omega)) (gPw.pre (av := [.ref hm, .int (7 : Int32)]) (wc := [(hm, .inr (6, [.int (0 : Int32), .ref m1, .ref m2, .ref m3, .ref m4, .ref m5, .int (1 : Int32), .ref m7, .int (0 : Int32), .ref m9, .ref m10, .ref m11, .ref m12, .ref m13, .int (0 : Int32), .ref m15, .ref m16, .ref m17])), (m1, .inl (cI, 12, .inl (fun _ => (0 : Int32)))), (m2, .inl (cI, 12, .inl (fun _ => (0 : Int32)))), (m3, .inl (cI, 12, .inl (fun _ => (0 : Int32)))), (m4, .inl (cI, 24, .inl (fun _ => (-1 : Int32)))), (m5, .inl (cZ, 12, .inl (fun _ => (0 : Int32))))]) hK hN [0, 1, 2, 3, 4, 5] rfl (by decide)) gX6_digest_X6_edgesOf rfl rfl kd_X6_edgesOf ⟨by decide, by decide⟩ (st := [.long (-8237461976616826286 : Int64)]) rfl (Nat.le_of_ble_eq_true rfl) dX6_digest_205 ⟨by decide, by decide⟩) hA (fun _ h => h) [0, 1, 2, 3, 4, 5] [6, 7] (wr := [(m7, .inl (cI, 12, .inl (fun _ => (1 : Int32)))), (m13, .inl (cZ, 40, .inl (fun _ => (0 : Int32))))]) rfl rfl (by decide) (by decide) [2, 3, 4, 5, 6, 7, 0, 1] (by decide) (fun _ => rfl) (fun u hu => ?_)
  refine g_callP (g_runS B (PM.met (r_count_2 l (D := D) (cI := cI) (cL := cL) (cZ := cZ)  )) (gPp.pre (av := [.int (2 : Int32)]) (wc := []) hK hN [] rfl (by decide)) gX6_digest_X6_count rfl kd_X6_count ⟨by decide, by decide⟩ (st := [.long (-8237461976616826286 : Int64)]) rfl (Nat.le_of_ble_eq_true rfl) dX6_digest_208 ⟨by decide, by decide⟩) (fun u hu => ?_)
  refine g_i2l (v := (1 : Int64)) B dX6_digest_211 (by decide) ?_
  refine g_ladd (v := (-8237461976616826285 : Int64)) B dX6_digest_212 (by decide) ?_
  refine g_ldc2 (v := (31 : Int64)) B dX6_digest_213 (List.mem_of_getElem? (i := 3) rfl) ?_
  refine g_lmul (v := (2893095756812107789 : Int64)) B dX6_digest_216 (by decide) ?_
  refine g_aload_n B dX6_digest_217 0 rfl ?_
  refine g_iload_n B dX6_digest_218 2 rfl ?_
  refine g_callW (w2 := (fun (_ : Unit) => [(hm, .inr (6, [.int (0 : Int32), .ref m1, .ref m2, .ref m3, .ref m4, .ref m5, .int (1 : Int32), .ref m7, .int (0 : Int32), .ref m9, .ref m10, .ref m11, .ref m12, .ref m13, .int (0 : Int32), .ref m15, .ref m16, .ref m17])), (m1, .inl (cI, 12, .inl (fun _ => (0 : Int32)))), (m2, .inl (cI, 12, .inl (fun _ => (0 : Int32)))), (m3, .inl (cI, 12, .inl (fun _ => (0 : Int32)))), (m4, .inl (cI, 24, .inl (fun _ => (-1 : Int32)))), (m5, .inl (cZ, 12, .inl (fun _ => (0 : Int32)))), (m7, .inl (cI, 12, .inl (fun _ => (1 : Int32)))), (m13, .inl (cZ, 40, .inl (fun _ => (0 : Int32))))])) (g_runV (q0 := 0) (ci := 6) B hK rfl rfl (r_wouldDropNow l (D := D) (cI := cI) (cL := cL) (cZ := cZ) hm m1 m2 m3 m4 m5 m7 m9 m10 m11 m12 m13 m15 m16 m17 (0 : Int32) (1 : Int32) (0 : Int32) 7 (by omega)) (gPw.pre (av := [.ref hm, .int (7 : Int32)]) (wc := [(hm, .inr (6, [.int (0 : Int32), .ref m1, .ref m2, .ref m3, .ref m4, .ref m5, .int (1 : Int32), .ref m7, .int (0 : Int32), .ref m9, .ref m10, .ref m11, .ref m12, .ref m13, .int (0 : Int32), .ref m15, .ref m16, .ref m17])), (m1, .inl (cI, 12, .inl (fun _ => (0 : Int32)))), (m2, .inl (cI, 12, .inl (fun _ => (0 : Int32)))), (m3, .inl (cI, 12, .inl (fun _ => (0 : Int32)))), (m4, .inl (cI, 24, .inl (fun _ => (-1 : Int32)))), (m5, .inl (cZ, 12, .inl (fun _ => (0 : Int32)))), (m13, .inl (cZ, 40, .inl (fun _ => (0 : Int32))))]) hK hN [0, 1, 2, 3, 4, 5, 7] rfl (by decide)) gX6_digest_X6_wouldDropNow rfl rfl kd_X6_wouldDropNow ⟨by decide, by decide⟩ (st := [.long (2893095756812107789 : Int64)]) rfl (Nat.le_of_ble_eq_true rfl) dX6_digest_219 ⟨by decide, by decide⟩) hA (fun _ h => h) [0, 1, 2, 3, 4, 5, 7] [6] (wr := [(m7, .inl (cI, 12, .inl (fun _ => (1 : Int32))))]) rfl rfl (by decide) (by decide) [1, 2, 3, 4, 5, 6, 0, 7] (by decide) (fun _ => rfl) (fun u hu => ?_)
  refine g_i2l (v := (0 : Int64)) B dX6_digest_222 (by decide) ?_
  refine g_ladd (v := (2893095756812107789 : Int64)) B dX6_digest_223 (by decide) ?_
  refine g_lstore_n (lv' := [(0, .ref hm), (1, .long (2893095756812107789 : Int64)), (3, .int (7 : Int32)), (4, .int (3 : Int32))]) B dX6_digest_224 rfl (by decide) [1, 0, 2, 3] rfl ?_
  refine g_iinc (lv' := [(0, .ref hm), (1, .long (2893095756812107789 : Int64)), (3, .int (8 : Int32)), (4, .int (3 : Int32))]) B dX6_digest_225 2 rfl (by decide) (by decide) [1, 2, 0, 3] rfl ?_
  refine g_goto (tgt := 181) B dX6_digest_228 (by decide) ?_
  refine g_iload_n B dX6_digest_181 2 rfl ?_
  refine g_bipush (v := (10 : Int32)) B dX6_digest_182 (by decide) ?_
  refine g_icmp_ge (tgt := 231) B dX6_digest_184 (by decide) (fun c255 => absurd c255 (by decide)) (fun _ => ?_)
  refine g_lload_n B dX6_digest_187 1 rfl ?_
  refine g_ldc2 (v := (31 : Int64)) B dX6_digest_188 (List.mem_of_getElem? (i := 3) rfl) ?_
  refine g_lmul (v := (-2547751907372416621 : Int64)) B dX6_digest_191 (by decide) ?_
  refine g_aload_n B dX6_digest_192 0 rfl ?_
  refine g_iload_n B dX6_digest_193 2 rfl ?_
  refine g_callW (w2 := (fun (_ : Unit) => [(hm, .inr (6, [.int (0 : Int32), .ref m1, .ref m2, .ref m3, .ref m4, .ref m5, .int (1 : Int32), .ref m7, .int (0 : Int32), .ref m9, .ref m10, .ref m11, .ref m12, .ref m13, .int (0 : Int32), .ref m15, .ref m16, .ref m17])), (m1, .inl (cI, 12, .inl (fun _ => (0 : Int32)))), (m2, .inl (cI, 12, .inl (fun _ => (0 : Int32)))), (m3, .inl (cI, 12, .inl (fun _ => (0 : Int32)))), (m4, .inl (cI, 24, .inl (fun _ => (-1 : Int32)))), (m5, .inl (cZ, 12, .inl (fun _ => (0 : Int32)))), (m7, .inl (cI, 12, .inl (fun _ => (1 : Int32)))), (m13, .inl (cZ, 40, .inl (fun _ => (0 : Int32))))])) (g_runV (q0 := 0) (ci := 6) B hK rfl rfl (r_resultOf l (D := D) (cI := cI) (cL := cL) (cZ := cZ) hm m1 m2 m3 m4 m5 m7 m9 m10 m11 m12 m13 m15 m16 m17 (0 : Int32) (1 : Int32) (0 : Int32) (0 : Int32) 8 (by omega)) (gPw.pre (av := [.ref hm, .int (8 : Int32)]) (wc := [(hm, .inr (6, [.int (0 : Int32), .ref m1, .ref m2, .ref m3, .ref m4, .ref m5, .int (1 : Int32), .ref m7, .int (0 : Int32), .ref m9, .ref m10, .ref m11, .ref m12, .ref m13, .int (0 : Int32), .ref m15, .ref m16, .ref m17])), (m1, .inl (cI, 12, .inl (fun _ => (0 : Int32)))), (m2, .inl (cI, 12, .inl (fun _ => (0 : Int32)))), (m3, .inl (cI, 12, .inl (fun _ => (0 : Int32)))), (m4, .inl (cI, 24, .inl (fun _ => (-1 : Int32)))), (m5, .inl (cZ, 12, .inl (fun _ => (0 : Int32))))]) hK hN [0, 1, 2, 3, 4, 5] rfl (by decide)) gX6_digest_X6_resultOf rfl rfl kd_X6_resultOf ⟨by decide, by decide⟩ (st := [.long (-2547751907372416621 : Int64)]) rfl (Nat.le_of_ble_eq_true rfl) dX6_digest_194 ⟨by decide, by decide⟩) hA (fun _ h => h) [0, 1, 2, 3, 4, 5] [6, 7] (wr := [(m7, .inl (cI, 12, .inl (fun _ => (1 : Int32)))), (m13, .inl (cZ, 40, .inl (fun _ => (0 : Int32))))]) rfl rfl (by decide) (by decide) [2, 3, 4, 5, 6, 7, 0, 1] (by decide) (fun _ => rfl) (fun u hu => ?_)
  refine g_i2l (v := (1 : Int64)) B dX6_digest_197 (by decide) ?_
  refine g_ladd (v := (-2547751907372416620 : Int64)) B dX6_digest_198 (by decide) ?_
  refine g_ldc2 (v := (31 : Int64)) B dX6_digest_199 (List.mem_of_getElem? (i := 3) rfl) ?_
  refine g_lmul (v := (-5193332833706708756 : Int64)) B dX6_digest_202 (by decide) ?_
  refine g_aload_n B dX6_digest_203 0 rfl ?_
  refine g_iload_n B dX6_digest_204 2 rfl ?_
  refine g_callW (w2 := (fun (_ : Unit) => [(hm, .inr (6, [.int (0 : Int32), .ref m1, .ref m2, .ref m3, .ref m4, .ref m5, .int (1 : Int32), .ref m7, .int (0 : Int32), .ref m9, .ref m10, .ref m11, .ref m12, .ref m13, .int (0 : Int32), .ref m15, .ref m16, .ref m17])), (m1, .inl (cI, 12, .inl (fun _ => (0 : Int32)))), (m2, .inl (cI, 12, .inl (fun _ => (0 : Int32)))), (m3, .inl (cI, 12, .inl (fun _ => (0 : Int32)))), (m4, .inl (cI, 24, .inl (fun _ => (-1 : Int32)))), (m5, .inl (cZ, 12, .inl (fun _ => (0 : Int32)))), (m7, .inl (cI, 12, .inl (fun _ => (1 : Int32)))), (m13, .inl (cZ, 40, .inl (fun _ => (0 : Int32))))])) (g_runV (q0 := 0) (ci := 6) B hK rfl rfl (r_edgesOf l (D := D) (cI := cI) (cL := cL) (cZ := cZ) hm m1 m2 m3 m4 m5 m7 m9 m10 m11 m12 m13 m15 m16 m17 (0 : Int32) (1 : Int32) (0 : Int32) (0 : Int32) 8 (by omega)) (gPw.pre (av := [.ref hm, .int (8 : Int32)]) (wc := [(hm, .inr (6, [.int (0 : Int32), .ref m1, .ref m2, .ref m3, .ref m4, .ref m5, .int (1 : Int32), .ref m7, .int (0 : Int32), .ref m9, .ref m10, .ref m11, .ref m12, .ref m13, .int (0 : Int32), .ref m15, .ref m16, .ref m17])), (m1, .inl (cI, 12, .inl (fun _ => (0 : Int32)))), (m2, .inl (cI, 12, .inl (fun _ => (0 : Int32)))), (m3, .inl (cI, 12, .inl (fun _ => (0 : Int32)))), (m4, .inl (cI, 24, .inl (fun _ => (-1 : Int32)))), (m5, .inl (cZ, 12, .inl (fun _ => (0 : Int32))))]) hK hN [0, 1, 2, 3, 4, 5] rfl (by decide)) gX6_digest_X6_edgesOf rfl rfl kd_X6_edgesOf ⟨by decide, by decide⟩ (st := [.long (-5193332833706708756 : Int64)]) rfl (Nat.le_of_ble_eq_true rfl) dX6_digest_205 ⟨by decide, by decide⟩) hA (fun _ h => h) [0, 1, 2, 3, 4, 5] [6, 7] (wr := [(m7, .inl (cI, 12, .inl (fun _ => (1 : Int32)))), (m13, .inl (cZ, 40, .inl (fun _ => (0 : Int32))))]) rfl rfl (by decide) (by decide) [2, 3, 4, 5, 6, 7, 0, 1] (by decide) (fun _ => rfl) (fun u hu => ?_)
  refine g_callP (g_runS B (PM.met (r_count_2 l (D := D) (cI := cI) (cL := cL) (cZ := cZ)  )) (gPp.pre (av := [.int (2 : Int32)]) (wc := []) hK hN [] rfl (by decide)) gX6_digest_X6_count rfl kd_X6_count ⟨by decide, by decide⟩ (st := [.long (-5193332833706708756 : Int64)]) rfl (Nat.le_of_ble_eq_true rfl) dX6_digest_208 ⟨by decide, by decide⟩) (fun u hu => ?_)
  refine g_i2l (v := (1 : Int64)) B dX6_digest_211 (by decide) ?_
  refine g_ladd (v := (-5193332833706708755 : Int64)) B dX6_digest_212 (by decide) ?_
  refine g_ldc2 (v := (31 : Int64)) B dX6_digest_213 (List.mem_of_getElem? (i := 3) rfl) ?_
  refine g_lmul (v := (5027378818477993139 : Int64)) B dX6_digest_216 (by decide) ?_
  refine g_aload_n B dX6_digest_217 0 rfl ?_
  refine g_iload_n B dX6_digest_218 2 rfl ?_
  refine g_callW (w2 := (fun (_ : Unit) => [(hm, .inr (6, [.int (0 : Int32), .ref m1, .ref m2, .ref m3, .ref m4, .ref m5, .int (1 : Int32), .ref m7, .int (0 : Int32), .ref m9, .ref m10, .ref m11, .ref m12, .ref m13, .int (0 : Int32), .ref m15, .ref m16, .ref m17])), (m1, .inl (cI, 12, .inl (fun _ => (0 : Int32)))), (m2, .inl (cI, 12, .inl (fun _ => (0 : Int32)))), (m3, .inl (cI, 12, .inl (fun _ => (0 : Int32)))), (m4, .inl (cI, 24, .inl (fun _ => (-1 : Int32)))), (m5, .inl (cZ, 12, .inl (fun _ => (0 : Int32)))), (m7, .inl (cI, 12, .inl (fun _ => (1 : Int32)))), (m13, .inl (cZ, 40, .inl (fun _ => (0 : Int32))))])) (g_runV (q0 := 0) (ci := 6) B hK rfl rfl (r_wouldDropNow l (D := D) (cI := cI) (cL := cL) (cZ := cZ) hm m1 m2 m3 m4 m5 m7 m9 m10 m11 m12 m13 m15 m16 m17 (0 : Int32) (1 : Int32) (0 : Int32) 8 (by omega)) (gPw.pre (av := [.ref hm, .int (8 : Int32)]) (wc := [(hm, .inr (6, [.int (0 : Int32), .ref m1, .ref m2, .ref m3, .ref m4, .ref m5, .int (1 : Int32), .ref m7, .int (0 : Int32), .ref m9, .ref m10, .ref m11, .ref m12, .ref m13, .int (0 : Int32), .ref m15, .ref m16, .ref m17])), (m1, .inl (cI, 12, .inl (fun _ => (0 : Int32)))), (m2, .inl (cI, 12, .inl (fun _ => (0 : Int32)))), (m3, .inl (cI, 12, .inl (fun _ => (0 : Int32)))), (m4, .inl (cI, 24, .inl (fun _ => (-1 : Int32)))), (m5, .inl (cZ, 12, .inl (fun _ => (0 : Int32)))), (m13, .inl (cZ, 40, .inl (fun _ => (0 : Int32))))]) hK hN [0, 1, 2, 3, 4, 5, 7] rfl (by decide)) gX6_digest_X6_wouldDropNow rfl rfl kd_X6_wouldDropNow ⟨by decide, by decide⟩ (st := [.long (5027378818477993139 : Int64)]) rfl (Nat.le_of_ble_eq_true rfl) dX6_digest_219 ⟨by decide, by decide⟩) hA (fun _ h => h) [0, 1, 2, 3, 4, 5, 7] [6] (wr := [(m7, .inl (cI, 12, .inl (fun _ => (1 : Int32))))]) rfl rfl (by decide) (by decide) [1, 2, 3, 4, 5, 6, 0, 7] (by decide) (fun _ => rfl) (fun u hu => ?_)
  refine g_i2l (v := (0 : Int64)) B dX6_digest_222 (by decide) ?_
  refine g_ladd (v := (5027378818477993139 : Int64)) B dX6_digest_223 (by decide) ?_
  refine g_lstore_n (lv' := [(0, .ref hm), (1, .long (5027378818477993139 : Int64)), (3, .int (8 : Int32)), (4, .int (3 : Int32))]) B dX6_digest_224 rfl (by decide) [1, 0, 2, 3] rfl ?_
  refine g_iinc (lv' := [(0, .ref hm), (1, .long (5027378818477993139 : Int64)), (3, .int (9 : Int32)), (4, .int (3 : Int32))]) B dX6_digest_225 2 rfl (by decide) (by decide) [1, 2, 0, 3] rfl ?_
  refine g_goto (tgt := 181) B dX6_digest_228 (by decide) ?_
  refine g_iload_n B dX6_digest_181 2 rfl ?_
  refine g_bipush (v := (10 : Int32)) B dX6_digest_182 (by decide) ?_
  refine g_icmp_ge (tgt := 231) B dX6_digest_184 (by decide) (fun c260 => absurd c260 (by decide)) (fun _ => ?_)
  refine g_lload_n B dX6_digest_187 1 rfl ?_
  refine g_ldc2 (v := (31 : Int64)) B dX6_digest_188 (List.mem_of_getElem? (i := 3) rfl) ?_
  refine g_lmul (v := (8274790783141374381 : Int64)) B dX6_digest_191 (by decide) ?_
  refine g_aload_n B dX6_digest_192 0 rfl ?_
  refine g_iload_n B dX6_digest_193 2 rfl ?_
  refine g_callW (w2 := (fun (_ : Unit) => [(hm, .inr (6, [.int (0 : Int32), .ref m1, .ref m2, .ref m3, .ref m4, .ref m5, .int (1 : Int32), .ref m7, .int (0 : Int32), .ref m9, .ref m10, .ref m11, .ref m12, .ref m13, .int (0 : Int32), .ref m15, .ref m16, .ref m17])), (m1, .inl (cI, 12, .inl (fun _ => (0 : Int32)))), (m2, .inl (cI, 12, .inl (fun _ => (0 : Int32)))), (m3, .inl (cI, 12, .inl (fun _ => (0 : Int32)))), (m4, .inl (cI, 24, .inl (fun _ => (-1 : Int32)))), (m5, .inl (cZ, 12, .inl (fun _ => (0 : Int32)))), (m7, .inl (cI, 12, .inl (fun _ => (1 : Int32)))), (m13, .inl (cZ, 40, .inl (fun _ => (0 : Int32))))])) (g_runV (q0 := 0) (ci := 6) B hK rfl rfl (r_resultOf l (D := D) (cI := cI) (cL := cL) (cZ := cZ) hm m1 m2 m3 m4 m5 m7 m9 m10 m11 m12 m13 m15 m16 m17 (0 : Int32) (1 : Int32) (0 : Int32) (0 : Int32) 9 (by omega)) (gPw.pre (av := [.ref hm, .int (9 : Int32)]) (wc := [(hm, .inr (6, [.int (0 : Int32), .ref m1, .ref m2, .ref m3, .ref m4, .ref m5, .int (1 : Int32), .ref m7, .int (0 : Int32), .ref m9, .ref m10, .ref m11, .ref m12, .ref m13, .int (0 : Int32), .ref m15, .ref m16, .ref m17])), (m1, .inl (cI, 12, .inl (fun _ => (0 : Int32)))), (m2, .inl (cI, 12, .inl (fun _ => (0 : Int32)))), (m3, .inl (cI, 12, .inl (fun _ => (0 : Int32)))), (m4, .inl (cI, 24, .inl (fun _ => (-1 : Int32)))), (m5, .inl (cZ, 12, .inl (fun _ => (0 : Int32))))]) hK hN [0, 1, 2, 3, 4, 5] rfl (by decide)) gX6_digest_X6_resultOf rfl rfl kd_X6_resultOf ⟨by decide, by decide⟩ (st := [.long (8274790783141374381 : Int64)]) rfl (Nat.le_of_ble_eq_true rfl) dX6_digest_194 ⟨by decide, by decide⟩) hA (fun _ h => h) [0, 1, 2, 3, 4, 5] [6, 7] (wr := [(m7, .inl (cI, 12, .inl (fun _ => (1 : Int32)))), (m13, .inl (cZ, 40, .inl (fun _ => (0 : Int32))))]) rfl rfl (by decide) (by decide) [2, 3, 4, 5, 6, 7, 0, 1] (by decide) (fun _ => rfl) (fun u hu => ?_)
  refine g_i2l (v := (1 : Int64)) B dX6_digest_197 (by decide) ?_
  refine g_ladd (v := (8274790783141374382 : Int64)) B dX6_digest_198 (by decide) ?_
  refine g_ldc2 (v := (31 : Int64)) B dX6_digest_199 (List.mem_of_getElem? (i := 3) rfl) ?_
  refine g_lmul (v := (-1735902754551116782 : Int64)) B dX6_digest_202 (by decide) ?_
  refine g_aload_n B dX6_digest_203 0 rfl ?_
  refine g_iload_n B dX6_digest_204 2 rfl ?_
  refine g_callW (w2 := (fun (_ : Unit) => [(hm, .inr (6, [.int (0 : Int32), .ref m1, .ref m2, .ref m3, .ref m4, .ref m5, .int (1 : Int32), .ref m7, .int (0 : Int32), .ref m9, .ref m10, .ref m11, .ref m12, .ref m13, .int (0 : Int32), .ref m15, .ref m16, .ref m17])), (m1, .inl (cI, 12, .inl (fun _ => (0 : Int32)))), (m2, .inl (cI, 12, .inl (fun _ => (0 : Int32)))), (m3, .inl (cI, 12, .inl (fun _ => (0 : Int32)))), (m4, .inl (cI, 24, .inl (fun _ => (-1 : Int32)))), (m5, .inl (cZ, 12, .inl (fun _ => (0 : Int32)))), (m7, .inl (cI, 12, .inl (fun _ => (1 : Int32)))), (m13, .inl (cZ, 40, .inl (fun _ => (0 : Int32))))])) (g_runV (q0 := 0) (ci := 6) B hK rfl rfl (r_edgesOf l (D := D) (cI := cI) (cL := cL) (cZ := cZ) hm m1 m2 m3 m4 m5 m7 m9 m10 m11 m12 m13 m15 m16 m17 (0 : Int32) (1 : Int32) (0 : Int32) (0 : Int32) 9 (by omega)) (gPw.pre (av := [.ref hm, .int (9 : Int32)]) (wc := [(hm, .inr (6, [.int (0 : Int32), .ref m1, .ref m2, .ref m3, .ref m4, .ref m5, .int (1 : Int32), .ref m7, .int (0 : Int32), .ref m9, .ref m10, .ref m11, .ref m12, .ref m13, .int (0 : Int32), .ref m15, .ref m16, .ref m17])), (m1, .inl (cI, 12, .inl (fun _ => (0 : Int32)))), (m2, .inl (cI, 12, .inl (fun _ => (0 : Int32)))), (m3, .inl (cI, 12, .inl (fun _ => (0 : Int32)))), (m4, .inl (cI, 24, .inl (fun _ => (-1 : Int32)))), (m5, .inl (cZ, 12, .inl (fun _ => (0 : Int32))))]) hK hN [0, 1, 2, 3, 4, 5] rfl (by decide)) gX6_digest_X6_edgesOf rfl rfl kd_X6_edgesOf ⟨by decide, by decide⟩ (st := [.long (-1735902754551116782 : Int64)]) rfl (Nat.le_of_ble_eq_true rfl) dX6_digest_205 ⟨by decide, by decide⟩) hA (fun _ h => h) [0, 1, 2, 3, 4, 5] [6, 7] (wr := [(m7, .inl (cI, 12, .inl (fun _ => (1 : Int32)))), (m13, .inl (cZ, 40, .inl (fun _ => (0 : Int32))))]) rfl rfl (by decide) (by decide) [2, 3, 4, 5, 6, 7, 0, 1] (by decide) (fun _ => rfl) (fun u hu => ?_)
  refine g_callP (g_runS B (PM.met (r_count_2 l (D := D) (cI := cI) (cL := cL) (cZ := cZ)  )) (gPp.pre (av := [.int (2 : Int32)]) (wc := []) hK hN [] rfl (by decide)) gX6_digest_X6_count rfl kd_X6_count ⟨by decide, by decide⟩ (st := [.long (-1735902754551116782 : Int64)]) rfl (Nat.le_of_ble_eq_true rfl) dX6_digest_208 ⟨by decide, by decide⟩) (fun u hu => ?_)
  refine g_i2l (v := (1 : Int64)) B dX6_digest_211 (by decide) ?_
  refine g_ladd (v := (-1735902754551116781 : Int64)) B dX6_digest_212 (by decide) ?_
  refine g_ldc2 (v := (31 : Int64)) B dX6_digest_213 (List.mem_of_getElem? (i := 3) rfl) ?_
  refine g_lmul (v := (1527246830044034637 : Int64)) B dX6_digest_216 (by decide) ?_
  refine g_aload_n B dX6_digest_217 0 rfl ?_
  refine g_iload_n B dX6_digest_218 2 rfl ?_
  refine g_callW (w2 := (fun (_ : Unit) => [(hm, .inr (6, [.int (0 : Int32), .ref m1, .ref m2, .ref m3, .ref m4, .ref m5, .int (1 : Int32), .ref m7, .int (0 : Int32), .ref m9, .ref m10, .ref m11, .ref m12, .ref m13, .int (0 : Int32), .ref m15, .ref m16, .ref m17])), (m1, .inl (cI, 12, .inl (fun _ => (0 : Int32)))), (m2, .inl (cI, 12, .inl (fun _ => (0 : Int32)))), (m3, .inl (cI, 12, .inl (fun _ => (0 : Int32)))), (m4, .inl (cI, 24, .inl (fun _ => (-1 : Int32)))), (m5, .inl (cZ, 12, .inl (fun _ => (0 : Int32)))), (m7, .inl (cI, 12, .inl (fun _ => (1 : Int32)))), (m13, .inl (cZ, 40, .inl (fun _ => (0 : Int32))))])) (g_runV (q0 := 0) (ci := 6) B hK rfl rfl (r_wouldDropNow l (D := D) (cI := cI) (cL := cL) (cZ := cZ) hm m1 m2 m3 m4 m5 m7 m9 m10 m11 m12 m13 m15 m16 m17 (0 : Int32) (1 : Int32) (0 : Int32) 9 (by omega)) (gPw.pre (av := [.ref hm, .int (9 : Int32)]) (wc := [(hm, .inr (6, [.int (0 : Int32), .ref m1, .ref m2, .ref m3, .ref m4, .ref m5, .int (1 : Int32), .ref m7, .int (0 : Int32), .ref m9, .ref m10, .ref m11, .ref m12, .ref m13, .int (0 : Int32), .ref m15, .ref m16, .ref m17])), (m1, .inl (cI, 12, .inl (fun _ => (0 : Int32)))), (m2, .inl (cI, 12, .inl (fun _ => (0 : Int32)))), (m3, .inl (cI, 12, .inl (fun _ => (0 : Int32)))), (m4, .inl (cI, 24, .inl (fun _ => (-1 : Int32)))), (m5, .inl (cZ, 12, .inl (fun _ => (0 : Int32)))), (m13, .inl (cZ, 40, .inl (fun _ => (0 : Int32))))]) hK hN [0, 1, 2, 3, 4, 5, 7] rfl (by decide)) gX6_digest_X6_wouldDropNow rfl rfl kd_X6_wouldDropNow ⟨by decide, by decide⟩ (st := [.long (1527246830044034637 : Int64)]) rfl (Nat.le_of_ble_eq_true rfl) dX6_digest_219 ⟨by decide, by decide⟩) hA (fun _ h => h) [0, 1, 2, 3, 4, 5, 7] [6] (wr := [(m7, .inl (cI, 12, .inl (fun _ => (1 : Int32))))]) rfl rfl (by decide) (by decide) [1, 2, 3, 4, 5, 6, 0, 7] (by decide) (fun _ => rfl) (fun u hu => ?_)
  refine g_i2l (v := (0 : Int64)) B dX6_digest_222 (by decide) ?_
  refine g_ladd (v := (1527246830044034637 : Int64)) B dX6_digest_223 (by decide) ?_
  refine g_lstore_n (lv' := [(0, .ref hm), (1, .long (1527246830044034637 : Int64)), (3, .int (9 : Int32)), (4, .int (3 : Int32))]) B dX6_digest_224 rfl (by decide) [1, 0, 2, 3] rfl ?_
  refine g_iinc (lv' := [(0, .ref hm), (1, .long (1527246830044034637 : Int64)), (3, .int (10 : Int32)), (4, .int (3 : Int32))]) B dX6_digest_225 2 rfl (by decide) (by decide) [1, 2, 0, 3] rfl ?_
  refine g_goto (tgt := 181) B dX6_digest_228 (by decide) ?_
  refine g_iload_n B dX6_digest_181 2 rfl ?_
  refine g_bipush (v := (10 : Int32)) B dX6_digest_182 (by decide) ?_
  refine g_icmp_ge (tgt := 231) B dX6_digest_184 (by decide) (fun _ => ?_) (fun c265 => absurd (by decide) c265)
  refine g_lload_n B dX6_digest_231 1 rfl ?_
  refine g_widen (k := 191) (n := 3483) (by (try dsimp only); omega) (by (try dsimp only); omega) ?_
  exact g_lret_w B hr hlocks () (rfl) (trivial) [0] (by decide) rfl dX6_digest_232

