/-! the reference on a fresh object: smallest and on -/
theorem hin_X6_smallest_RX6 : ∀ z ∈ u_ws RX6 TX6 18, z ∈ wsX6_smallest := by decide +kernel
theorem coN {P : Nat → Prop} [DecidablePred P] (n : Nat) (h : (List.range n).all (fun i => decide (P i)) = true) {i : Nat} (hi : i < n) : P i := of_decide_eq_true (List.all_eq_true.mp h i (List.mem_range.mpr hi))
theorem bit2 {e : Nat} (h : e < 24) : ((2 : Int32) >>> (nI e &&& 31)) &&& 1 = 1 ↔ e = 1 := coN (P := fun e => ((2 : Int32) >>> (nI e &&& 31)) &&& 1 = 1 ↔ e = 1) 24 (by decide +kernel) h
set_option maxHeartbeats 4000000 in
set_option maxRecDepth 100000 in
theorem r_smallest_x0 (l : Launch) {D : va_G} {cI cL cZ : ClassId} (hm : Nat) (m1 : Nat) (m2 : Nat) (m3 : Nat) (m4 : Nat) (m5 : Nat) (m7 : Nat) (m9 : Nat) (m10 : Nat) (m11 : Nat) (m12 : Nat) (m13 : Nat) (m15 : Nat) (m16 : Nat) (m17 : Nat) (th : Int32) (dr : Int32) (rl : Int32) (a1 : Int32) (a2 : Int32) (h1 : inR a1 0 23 = false) : WM l yX6_smallest wsX6_smallest ({ frames := 1, cells := 0, slots := 0, locals := 22 } : Room) D (gTys cI cL cZ) [.ref hm, .int a1, .int a2] [(hm, .inr (6, [.int th, .ref m1, .ref m2, .ref m3, .ref m4, .ref m5, .int dr, .ref m7, .int (0 : Int32), .ref m9, .ref m10, .ref m11, .ref m12, .ref m13, .int rl, .ref m15, .ref m16, .ref m17]))] (fun (_ : Unit) => True) (fun (_ : Unit) => some (.int (0 : Int32))) (fun (_ : Unit) => [(hm, .inr (6, [.int (1 : Int32), .ref m1, .ref m2, .ref m3, .ref m4, .ref m5, .int dr, .ref m7, .int (0 : Int32), .ref m9, .ref m10, .ref m11, .ref m12, .ref m13, .int rl, .ref m15, .ref m16, .ref m17]))]) := by
  refine WM.ofG cX6_smallest 5 (some .int) (by decide +kernel) rfl (Nat.le_of_ble_eq_true rfl) ?_
  intro p e s m below meth c A hA B hr hlocks hname hK hN
  refine g_aload_n B dX6_smallest_0 0 rfl ?_
  refine g_iconst (v := (0 : Int32)) B dX6_smallest_1 (by decide) ?_
  refine g_put (C := RX6) (T := TX6) (N := 18) (ci := 6) B hK hin_X6_smallest_RX6 0 rfl rfl 0 (by decide) tyX6 tyX6_ok nmX6 (List.mem_of_getElem? (i := 1) rfl) rfl rfl (ty := .int) (v := .int (0 : Int32)) (by decide +kernel) rfl rfl (Nat.le_of_ble_eq_true rfl) (w2 := [(hm, .inr (6, [.int (0 : Int32), .ref m1, .ref m2, .ref m3, .ref m4, .ref m5, .int dr, .ref m7, .int (0 : Int32), .ref m9, .ref m10, .ref m11, .ref m12, .ref m13, .int rl, .ref m15, .ref m16, .ref m17]))]) rfl (fun _ h => h) dX6_smallest_2 ?_
  refine g_iload_n B dX6_smallest_5 1 rfl ?_
  refine g_iconst (v := (0 : Int32)) B dX6_smallest_6 (by decide) ?_
  refine g_bipush (v := (23 : Int32)) B dX6_smallest_7 (by decide) ?_
  refine g_callP (g_runS B (PM.met (r_isIn_f l (D := D) (cI := cI) (cL := cL) (cZ := cZ) a1 (0 : Int32) (23 : Int32) (by first | assumption | exact hy (by assumption) | exact hz (by assumption)))) (gPp.pre (av := [.int a1, .int (0 : Int32), .int (23 : Int32)]) (wc := []) hK hN [] rfl (by decide)) gX6_smallest_X6_isIn rfl kd_X6_isIn ⟨by decide, by decide⟩ (st := []) rfl (Nat.le_of_ble_eq_true rfl) dX6_smallest_9 ⟨by decide, by decide⟩) (fun u hu => ?_)
  refine g_if_ne (tgt := 21) B dX6_smallest_12 (by decide) (fun c2 => absurd (by decide) c2) (fun _ => ?_)
  refine g_aload_n B dX6_smallest_15 0 rfl ?_
  refine g_iconst (v := (1 : Int32)) B dX6_smallest_16 (by decide) ?_
  refine g_callW (w2 := (fun (_ : Unit) => [(hm, .inr (6, [.int (1 : Int32), .ref m1, .ref m2, .ref m3, .ref m4, .ref m5, .int dr, .ref m7, .int (0 : Int32), .ref m9, .ref m10, .ref m11, .ref m12, .ref m13, .int rl, .ref m15, .ref m16, .ref m17]))])) (g_runV (q0 := 0) (ci := 6) B hK rfl rfl (r_no l (D := D) (cI := cI) (cL := cL) (cZ := cZ) hm m1 m2 m3 m4 m5 m7 m9 m10 m11 m12 m13 m15 m16 m17 (0 : Int32) dr (0 : Int32) rl (1 : Int32) ) (gPw.pre (av := [.ref hm, .int (1 : Int32)]) (wc := [(hm, .inr (6, [.int (0 : Int32), .ref m1, .ref m2, .ref m3, .ref m4, .ref m5, .int dr, .ref m7, .int (0 : Int32), .ref m9, .ref m10, .ref m11, .ref m12, .ref m13, .int rl, .ref m15, .ref m16, .ref m17]))]) hK hN [0] rfl (by decide)) gX6_smallest_X6_no rfl rfl kd_X6_no ⟨by decide, by decide⟩ (st := []) rfl (Nat.le_of_ble_eq_true rfl) dX6_smallest_17 ⟨by decide, by decide⟩) hA (fun _ h => h) [0] [] (wr := []) rfl rfl (by decide) (by decide) [0] (by decide) (fun _ => rfl) (fun u hu => ?_)
  exact g_iret_w B hr rfl hlocks () (rfl) (trivial) [0] (by decide) rfl dX6_smallest_20

set_option maxHeartbeats 4000000 in
set_option maxRecDepth 100000 in
theorem r_smallest_x1 (l : Launch) {D : va_G} {cI cL cZ : ClassId} (hm : Nat) (m1 : Nat) (m2 : Nat) (m3 : Nat) (m4 : Nat) (m5 : Nat) (m7 : Nat) (m9 : Nat) (m10 : Nat) (m11 : Nat) (m12 : Nat) (m13 : Nat) (m15 : Nat) (m16 : Nat) (m17 : Nat) (th : Int32) (dr : Int32) (rl : Int32) (a1 : Int32) (a2 : Int32) (h1 : inR a1 0 23 = true) (h2 : inR a2 0 9999 = false) : WM l yX6_smallest wsX6_smallest ({ frames := 2, cells := 0, slots := 0, locals := 42 } : Room) D (gTys cI cL cZ) [.ref hm, .int a1, .int a2] [(hm, .inr (6, [.int th, .ref m1, .ref m2, .ref m3, .ref m4, .ref m5, .int dr, .ref m7, .int (0 : Int32), .ref m9, .ref m10, .ref m11, .ref m12, .ref m13, .int rl, .ref m15, .ref m16, .ref m17]))] (fun (_ : Unit) => True) (fun (_ : Unit) => some (.int (0 : Int32))) (fun (_ : Unit) => [(hm, .inr (6, [.int (2 : Int32), .ref m1, .ref m2, .ref m3, .ref m4, .ref m5, .int dr, .ref m7, .int (0 : Int32), .ref m9, .ref m10, .ref m11, .ref m12, .ref m13, .int rl, .ref m15, .ref m16, .ref m17]))]) := by
  refine WM.ofG cX6_smallest 5 (some .int) (by decide +kernel) rfl (Nat.le_of_ble_eq_true rfl) ?_
  intro p e s m below meth c A hA B hr hlocks hname hK hN
  refine g_aload_n B dX6_smallest_0 0 rfl ?_
  refine g_iconst (v := (0 : Int32)) B dX6_smallest_1 (by decide) ?_
  refine g_put (C := RX6) (T := TX6) (N := 18) (ci := 6) B hK hin_X6_smallest_RX6 0 rfl rfl 0 (by decide) tyX6 tyX6_ok nmX6 (List.mem_of_getElem? (i := 1) rfl) rfl rfl (ty := .int) (v := .int (0 : Int32)) (by decide +kernel) rfl rfl (Nat.le_of_ble_eq_true rfl) (w2 := [(hm, .inr (6, [.int (0 : Int32), .ref m1, .ref m2, .ref m3, .ref m4, .ref m5, .int dr, .ref m7, .int (0 : Int32), .ref m9, .ref m10, .ref m11, .ref m12, .ref m13, .int rl, .ref m15, .ref m16, .ref m17]))]) rfl (fun _ h => h) dX6_smallest_2 ?_
  refine g_iload_n B dX6_smallest_5 1 rfl ?_
  refine g_iconst (v := (0 : Int32)) B dX6_smallest_6 (by decide) ?_
  refine g_bipush (v := (23 : Int32)) B dX6_smallest_7 (by decide) ?_
  refine g_callP (g_runS B (PM.met (r_isIn_t l (D := D) (cI := cI) (cL := cL) (cZ := cZ) a1 (0 : Int32) (23 : Int32) (by first | assumption | exact hy (by assumption) | exact hz (by assumption)))) (gPp.pre (av := [.int a1, .int (0 : Int32), .int (23 : Int32)]) (wc := []) hK hN [] rfl (by decide)) gX6_smallest_X6_isIn rfl kd_X6_isIn ⟨by decide, by decide⟩ (st := []) rfl (Nat.le_of_ble_eq_true rfl) dX6_smallest_9 ⟨by decide, by decide⟩) (fun u hu => ?_)
  refine g_if_ne (tgt := 21) B dX6_smallest_12 (by decide) (fun _ => ?_) (fun c2 => absurd c2 (by decide))
  refine g_iload_n B dX6_smallest_21 2 rfl ?_
  refine g_callP (g_runS B (PM.met (r_isCase_f l (D := D) (cI := cI) (cL := cL) (cZ := cZ) a2 (by first | assumption | exact hy (by assumption) | exact hz (by assumption)))) (gPp.pre (av := [.int a2]) (wc := []) hK hN [] rfl (by decide)) gX6_smallest_X6_isCase rfl kd_X6_isCase ⟨by decide, by decide⟩ (st := []) rfl (Nat.le_of_ble_eq_true rfl) dX6_smallest_22 ⟨by decide, by decide⟩) (fun u hu => ?_)
  refine g_if_ne (tgt := 34) B dX6_smallest_25 (by decide) (fun c4 => absurd (by decide) c4) (fun _ => ?_)
  refine g_aload_n B dX6_smallest_28 0 rfl ?_
  refine g_iconst (v := (2 : Int32)) B dX6_smallest_29 (by decide) ?_
  refine g_callW (w2 := (fun (_ : Unit) => [(hm, .inr (6, [.int (2 : Int32), .ref m1, .ref m2, .ref m3, .ref m4, .ref m5, .int dr, .ref m7, .int (0 : Int32), .ref m9, .ref m10, .ref m11, .ref m12, .ref m13, .int rl, .ref m15, .ref m16, .ref m17]))])) (g_runV (q0 := 0) (ci := 6) B hK rfl rfl (r_no l (D := D) (cI := cI) (cL := cL) (cZ := cZ) hm m1 m2 m3 m4 m5 m7 m9 m10 m11 m12 m13 m15 m16 m17 (0 : Int32) dr (0 : Int32) rl (2 : Int32) ) (gPw.pre (av := [.ref hm, .int (2 : Int32)]) (wc := [(hm, .inr (6, [.int (0 : Int32), .ref m1, .ref m2, .ref m3, .ref m4, .ref m5, .int dr, .ref m7, .int (0 : Int32), .ref m9, .ref m10, .ref m11, .ref m12, .ref m13, .int rl, .ref m15, .ref m16, .ref m17]))]) hK hN [0] rfl (by decide)) gX6_smallest_X6_no rfl rfl kd_X6_no ⟨by decide, by decide⟩ (st := []) rfl (Nat.le_of_ble_eq_true rfl) dX6_smallest_30 ⟨by decide, by decide⟩) hA (fun _ h => h) [0] [] (wr := []) rfl rfl (by decide) (by decide) [0] (by decide) (fun _ => rfl) (fun u hu => ?_)
  exact g_iret_w B hr rfl hlocks () (rfl) (trivial) [0] (by decide) rfl dX6_smallest_33

set_option maxHeartbeats 4000000 in
set_option maxRecDepth 100000 in
theorem r_smallest_v (l : Launch) {D : va_G} {cI cL cZ : ClassId} (hm : Nat) (m1 : Nat) (m2 : Nat) (m3 : Nat) (m4 : Nat) (m5 : Nat) (m7 : Nat) (m9 : Nat) (m10 : Nat) (m11 : Nat) (m12 : Nat) (m13 : Nat) (m15 : Nat) (m16 : Nat) (m17 : Nat) (th : Int32) (dr : Int32) (rl : Int32) (ed : Nat) (t : Nat) (h1 : ed < 24) (ht : t < 10000) : WM l yX6_smallest wsX6_smallest ({ frames := 5, cells := 200, slots := 3300, locals := 114 } : Room) D (gTys cI cL cZ) [.ref hm, .int (nI ed), .int (nI t)] [(hm, .inr (6, [.int th, .ref m1, .ref m2, .ref m3, .ref m4, .ref m5, .int dr, .ref m7, .int (0 : Int32), .ref m9, .ref m10, .ref m11, .ref m12, .ref m13, .int rl, .ref m15, .ref m16, .ref m17])), (m1, .inl (cI, 12, .inl (fun _ => (0 : Int32)))), (m2, .inl (cI, 12, .inl (fun _ => (0 : Int32)))), (m3, .inl (cI, 12, .inl (fun _ => (0 : Int32)))), (m4, .inl (cI, 24, .inl (fun _ => (-1 : Int32)))), (m5, .inl (cZ, 12, .inl (fun _ => (0 : Int32))))] (fun (r : Int32) => r = if ed = 1 then nI (t / 100 * 100) else -1) (fun (r : Int32) => some (.int r)) (fun (r : Int32) => [(hm, .inr (6, [.int (0 : Int32), .ref m1, .ref m2, .ref m3, .ref m4, .ref m5, .int dr, .ref m7, .int (0 : Int32), .ref m9, .ref m10, .ref m11, .ref m12, .ref m13, .int rl, .ref m15, .ref m16, .ref m17]))]) := by
  refine WM.ofG cX6_smallest 5 (some .int) (by decide +kernel) rfl (Nat.le_of_ble_eq_true rfl) ?_
  intro p e s m below meth c A hA B hr hlocks hname hK hN
  refine g_aload_n B dX6_smallest_0 0 rfl ?_
  refine g_iconst (v := (0 : Int32)) B dX6_smallest_1 (by decide) ?_
  refine g_put (C := RX6) (T := TX6) (N := 18) (ci := 6) B hK hin_X6_smallest_RX6 0 rfl rfl 0 (by decide) tyX6 tyX6_ok nmX6 (List.mem_of_getElem? (i := 1) rfl) rfl rfl (ty := .int) (v := .int (0 : Int32)) (by decide +kernel) rfl rfl (Nat.le_of_ble_eq_true rfl) (w2 := [(hm, .inr (6, [.int (0 : Int32), .ref m1, .ref m2, .ref m3, .ref m4, .ref m5, .int dr, .ref m7, .int (0 : Int32), .ref m9, .ref m10, .ref m11, .ref m12, .ref m13, .int rl, .ref m15, .ref m16, .ref m17])), (m1, .inl (cI, 12, .inl (fun _ => (0 : Int32)))), (m2, .inl (cI, 12, .inl (fun _ => (0 : Int32)))), (m3, .inl (cI, 12, .inl (fun _ => (0 : Int32)))), (m4, .inl (cI, 24, .inl (fun _ => (-1 : Int32)))), (m5, .inl (cZ, 12, .inl (fun _ => (0 : Int32))))]) rfl (fun _ h => h) dX6_smallest_2 ?_
  refine g_iload_n B dX6_smallest_5 1 rfl ?_
  refine g_iconst (v := (0 : Int32)) B dX6_smallest_6 (by decide) ?_
  refine g_bipush (v := (23 : Int32)) B dX6_smallest_7 (by decide) ?_
  refine g_callP (g_runS B (PM.met (r_isIn_n l (D := D) (cI := cI) (cL := cL) (cZ := cZ) ed 0 23 (by omega) (by omega) (by omega))) (gPp.pre (av := [.int (nI ed), .int (0 : Int32), .int (23 : Int32)]) (wc := []) hK hN [] rfl (by decide)) gX6_smallest_X6_isIn rfl kd_X6_isIn ⟨by decide, by decide⟩ (st := []) rfl (Nat.le_of_ble_eq_true rfl) dX6_smallest_9 ⟨by decide, by decide⟩) (fun u hu => ?_)
  refine g_if_ne (tgt := 21) B dX6_smallest_12 (by decide) (fun _ => ?_) (fun c2 => absurd c2 (by decide))
  refine g_iload_n B dX6_smallest_21 2 rfl ?_
  refine g_callP (g_runS B (PM.met (r_isCase_n l (D := D) (cI := cI) (cL := cL) (cZ := cZ) t (by omega))) (gPp.pre (av := [.int (nI t)]) (wc := []) hK hN [] rfl (by decide)) gX6_smallest_X6_isCase rfl kd_X6_isCase ⟨by decide, by decide⟩ (st := []) rfl (Nat.le_of_ble_eq_true rfl) dX6_smallest_22 ⟨by decide, by decide⟩) (fun u hu => ?_)
  refine g_if_ne (tgt := 34) B dX6_smallest_25 (by decide) (fun _ => ?_) (fun c4 => absurd c4 (by decide))
  refine g_iload_n B dX6_smallest_34 2 rfl ?_
  refine g_bipush (v := (100 : Int32)) B dX6_smallest_35 (by decide) ?_
  refine g_idiv (v := nI (t / 100)) B dX6_smallest_37 (by decide) (pk_div (a := t) (d := 100) (by omega) (by decide) (by decide)) ?_
  refine g_bipush (v := (100 : Int32)) B dX6_smallest_38 (by decide) ?_
  refine g_imul (v := nI ((t / 100) * 100)) B dX6_smallest_40 (pk_mul (t / 100) 100) ?_
  refine g_istore_n (lv' := [(0, .ref hm), (1, .int (nI ed)), (2, .int (nI t)), (3, .int (nI ((t / 100) * 100)))]) B dX6_smallest_41 rfl (by decide) [1, 2, 3, 0] rfl ?_
  refine g_iload_n B dX6_smallest_42 3 rfl ?_
  refine g_istore (lv' := [(0, .ref hm), (1, .int (nI ed)), (2, .int (nI t)), (3, .int (nI ((t / 100) * 100))), (4, .int (nI ((t / 100) * 100)))]) B dX6_smallest_43 (by decide) [1, 2, 3, 4, 0] rfl ?_
  refine g_widen (k := 2 * ((t / 100 * 100) - t / 100 * 100)) (n := 33 * ((t / 100 * 100) - t / 100 * 100)) (by (try dsimp only); omega) (by (try dsimp only); omega) ?_
  refine g_loop (σ := Nat) (fun x9 => t / 100 * 100 ≤ x9 ∧ x9 ≤ t / 100 * 100 + 100 ∧ (ed = 1 → x9 = t / 100 * 100)) (fun x9 => t / 100 * 100 + 101 - x9) (fun x9 => 2 * (x9 - t / 100 * 100)) (fun x9 => 33 * (x9 - t / 100 * 100)) (fun x9 => [(hm, .inr (6, [.int (0 : Int32), .ref m1, .ref m2, .ref m3, .ref m4, .ref m5, .int dr, .ref m7, .int (0 : Int32), .ref m9, .ref m10, .ref m11, .ref m12, .ref m13, .int rl, .ref m15, .ref m16, .ref m17])), (m1, .inl (cI, 12, .inl (fun _ => (0 : Int32)))), (m2, .inl (cI, 12, .inl (fun _ => (0 : Int32)))), (m3, .inl (cI, 12, .inl (fun _ => (0 : Int32)))), (m4, .inl (cI, 24, .inl (fun _ => (-1 : Int32)))), (m5, .inl (cZ, 12, .inl (fun _ => (0 : Int32))))]) (fun x9 => [(0, .ref hm), (1, .int (nI ed)), (2, .int (nI t)), (3, .int (nI (t / 100 * 100))), (4, .int (nI x9))]) (fun x9 hI ih45 => ?_) (t / 100 * 100) (by (try dsimp only); omega) rfl rfl rfl rfl
  obtain ⟨k, e9⟩ : ∃ z, z = x9 := ⟨_, rfl⟩; subst e9
  try dsimp only at hI ih45 ⊢
  refine g_iload B dX6_smallest_45 4 rfl ?_
  refine g_iload_n B dX6_smallest_47 3 rfl ?_
  refine g_bipush (v := (100 : Int32)) B dX6_smallest_48 (by decide) ?_
  refine g_iadd (v := nI ((t / 100 * 100) + 100)) B dX6_smallest_50 (nI_add (t / 100 * 100) 100) ?_
  refine g_ncmp_ge (tgt := 77) B k ((t / 100 * 100) + 100) rfl rfl (by omega) (by omega) dX6_smallest_51 (by decide) (fun c5 => ?_) (fun c5 => ?_)
  · refine g_iconst (v := (-1 : Int32)) B dX6_smallest_77 (by decide) ?_
    refine g_widen (k := 200) (n := 3300) (by (try dsimp only); omega) (by (try dsimp only); omega) ?_
    exact g_iret_w B hr rfl hlocks (-1 : Int32) (rfl) (by rw [if_neg (by omega)]) [0] (by decide) rfl dX6_smallest_78
  · refine g_aload_n B dX6_smallest_54 0 rfl ?_
    refine g_iload B dX6_smallest_55 4 rfl ?_
    refine g_callW (w2 := (fun (_ : Unit) => [(hm, .inr (6, [.int (0 : Int32), .ref m1, .ref m2, .ref m3, .ref m4, .ref m5, .int dr, .ref m7, .int (0 : Int32), .ref m9, .ref m10, .ref m11, .ref m12, .ref m13, .int rl, .ref m15, .ref m16, .ref m17])), (m1, .inl (cI, 12, .inl (fun _ => (0 : Int32)))), (m2, .inl (cI, 12, .inl (fun _ => (0 : Int32)))), (m3, .inl (cI, 12, .inl (fun _ => (0 : Int32)))), (m4, .inl (cI, 24, .inl (fun _ => (-1 : Int32)))), (m5, .inl (cZ, 12, .inl (fun _ => (0 : Int32))))])) (g_runV (q0 := 0) (ci := 6) B hK rfl rfl (r_edgesOf l (D := D) (cI := cI) (cL := cL) (cZ := cZ) hm m1 m2 m3 m4 m5 m7 m9 m10 m11 m12 m13 m15 m16 m17 (0 : Int32) dr (0 : Int32) rl k (by omega)) (gPw.pre (av := [.ref hm, .int (nI k)]) (wc := [(hm, .inr (6, [.int (0 : Int32), .ref m1, .ref m2, .ref m3, .ref m4, .ref m5, .int dr, .ref m7, .int (0 : Int32), .ref m9, .ref m10, .ref m11, .ref m12, .ref m13, .int rl, .ref m15, .ref m16, .ref m17])), (m1, .inl (cI, 12, .inl (fun _ => (0 : Int32)))), (m2, .inl (cI, 12, .inl (fun _ => (0 : Int32)))), (m3, .inl (cI, 12, .inl (fun _ => (0 : Int32)))), (m4, .inl (cI, 24, .inl (fun _ => (-1 : Int32)))), (m5, .inl (cZ, 12, .inl (fun _ => (0 : Int32))))]) hK hN [0, 1, 2, 3, 4, 5] rfl (by decide)) gX6_smallest_X6_edgesOf rfl rfl kd_X6_edgesOf ⟨by decide, by decide⟩ (st := []) rfl (Nat.le_of_ble_eq_true rfl) dX6_smallest_57 ⟨by (try dsimp only); omega, by (try dsimp only); omega⟩) hA (fun _ h => h) [0, 1, 2, 3, 4, 5] [] (wr := []) rfl rfl (by decide) (by decide) [0, 1, 2, 3, 4, 5] (by decide) (fun _ => rfl) (fun u hu => ?_)
    refine g_iload_n B dX6_smallest_60 1 rfl ?_
    refine g_ishr (v := ((2 : Int32) >>> (nI ed &&& 31))) B dX6_smallest_61 (rfl) ?_
    refine g_iconst (v := (1 : Int32)) B dX6_smallest_62 (by decide) ?_
    refine g_iand (v := (((2 : Int32) >>> (nI ed &&& 31)) &&& (1 : Int32))) B dX6_smallest_63 (rfl) ?_
    refine g_iconst (v := (1 : Int32)) B dX6_smallest_64 (by decide) ?_
    refine g_icmp_ne (tgt := 71) B dX6_smallest_65 (by decide) (fun c7 => ?_) (fun c7 => ?_)
    · refine g_iinc (lv' := [(0, .ref hm), (1, .int (nI ed)), (2, .int (nI t)), (3, .int (nI (t / 100 * 100))), (4, .int (nI (k + 1)))]) B dX6_smallest_71 4 rfl (nI_1 k) (by decide) [1, 2, 3, 4, 0] rfl ?_
      refine g_goto (tgt := 45) B dX6_smallest_74 (by decide) ?_
      refine g_widen (k := 2 * ((k + 1) - t / 100 * 100)) (n := 33 * ((k + 1) - t / 100 * 100)) (by (try dsimp only); omega) (by (try dsimp only); omega) ?_
      exact ih45 (k + 1) (by (try dsimp only); exact ⟨by omega, by omega, fun h8 => absurd ((bit2 h1).mpr h8) c7⟩) (by (try dsimp only); omega)
    · refine g_iload B dX6_smallest_68 4 rfl ?_
      refine g_widen (k := 200) (n := 3300) (by (try dsimp only); omega) (by (try dsimp only); omega) ?_
      exact g_iret_w B hr rfl hlocks (nI k) (rfl) (by have h9 := (bit2 h1).mp c7; rw [if_pos h9]; congr 1; omega) [0] (by decide) rfl dX6_smallest_70

