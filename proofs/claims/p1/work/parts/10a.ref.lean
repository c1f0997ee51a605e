/-! the reference on a fresh object: its inside -/
theorem kd_X6_drop : yX6_drop.cls ≠ "java/lang/invoke/MethodHandle" ∧ yX6_drop.cls ≠ "java/lang/invoke/VarHandle" ∧ (parseMethodDescriptor yX6_drop.desc).map (fun d => d.parameters.length) = some 0 := by decide +kernel
theorem kd_X6_edgeOf : yX6_edgeOf.cls ≠ "java/lang/invoke/MethodHandle" ∧ yX6_edgeOf.cls ≠ "java/lang/invoke/VarHandle" ∧ (parseMethodDescriptor yX6_edgeOf.desc).map (fun d => d.parameters.length) = some 2 := by decide +kernel
theorem kd_X6_isIn : yX6_isIn.cls ≠ "java/lang/invoke/MethodHandle" ∧ yX6_isIn.cls ≠ "java/lang/invoke/VarHandle" ∧ (parseMethodDescriptor yX6_isIn.desc).map (fun d => d.parameters.length) = some 3 := by decide +kernel
theorem kd_X6_kept : yX6_kept.cls ≠ "java/lang/invoke/MethodHandle" ∧ yX6_kept.cls ≠ "java/lang/invoke/VarHandle" ∧ (parseMethodDescriptor yX6_kept.desc).map (fun d => d.parameters.length) = some 0 := by decide +kernel
theorem kd_X6_keptEdges : yX6_keptEdges.cls ≠ "java/lang/invoke/MethodHandle" ∧ yX6_keptEdges.cls ≠ "java/lang/invoke/VarHandle" ∧ (parseMethodDescriptor yX6_keptEdges.desc).map (fun d => d.parameters.length) = some 1 := by decide +kernel
theorem kd_X6_valueOf : yX6_valueOf.cls ≠ "java/lang/invoke/MethodHandle" ∧ yX6_valueOf.cls ≠ "java/lang/invoke/VarHandle" ∧ (parseMethodDescriptor yX6_valueOf.desc).map (fun d => d.parameters.length) = some 2 := by decide +kernel
theorem kd_X6_way : yX6_way.cls ≠ "java/lang/invoke/MethodHandle" ∧ yX6_way.cls ≠ "java/lang/invoke/VarHandle" ∧ (parseMethodDescriptor yX6_way.desc).map (fun d => d.parameters.length) = some 1 := by decide +kernel
theorem kd_X6_worth : yX6_worth.cls ≠ "java/lang/invoke/MethodHandle" ∧ yX6_worth.cls ≠ "java/lang/invoke/VarHandle" ∧ (parseMethodDescriptor yX6_worth.desc).map (fun d => d.parameters.length) = some 1 := by decide +kernel
theorem hin_X6_changed_RX6 : ∀ z ∈ u_ws RX6 TX6 18, z ∈ wsX6_changed := by decide +kernel
theorem hin_X6_drop_RX6 : ∀ z ∈ u_ws RX6 TX6 18, z ∈ wsX6_drop := by decide +kernel
theorem hin_X6_edgeOf_RX6 : ∀ z ∈ u_ws RX6 TX6 18, z ∈ wsX6_edgeOf := by decide +kernel
theorem hin_X6_hasResult_RX6 : ∀ z ∈ u_ws RX6 TX6 18, z ∈ wsX6_hasResult := by decide +kernel
theorem hin_X6_keptEdges_RX6 : ∀ z ∈ u_ws RX6 TX6 18, z ∈ wsX6_keptEdges := by decide +kernel
theorem hin_X6_kept_RX6 : ∀ z ∈ u_ws RX6 TX6 18, z ∈ wsX6_kept := by decide +kernel
theorem hin_X6_knownEdges_RX6 : ∀ z ∈ u_ws RX6 TX6 18, z ∈ wsX6_knownEdges := by decide +kernel
theorem hin_X6_no_RX6 : ∀ z ∈ u_ws RX6 TX6 18, z ∈ wsX6_no := by decide +kernel
theorem hin_X6_placeOf_RX6 : ∀ z ∈ u_ws RX6 TX6 18, z ∈ wsX6_placeOf := by decide +kernel
theorem hin_X6_thrown_RX6 : ∀ z ∈ u_ws RX6 TX6 18, z ∈ wsX6_thrown := by decide +kernel
theorem hin_X6_way_RX6 : ∀ z ∈ u_ws RX6 TX6 18, z ∈ wsX6_way := by decide +kernel
set_option maxHeartbeats 4000000 in
set_option maxRecDepth 100000 in
theorem r_thrown (l : Launch) {D : va_G} {cI cL cZ : ClassId} (hm : Nat) (m1 : Nat) (m2 : Nat) (m3 : Nat) (m4 : Nat) (m5 : Nat) (m7 : Nat) (m9 : Nat) (m10 : Nat) (m11 : Nat) (m12 : Nat) (m13 : Nat) (m15 : Nat) (m16 : Nat) (m17 : Nat) (th : Int32) (dr : Int32) (kn : Int32) (rl : Int32)  : PM l yX6_thrown wsX6_thrown ({ frames := 0, cells := 0, slots := 0, locals := 0 } : Room) D (gTys cI cL cZ) [.ref hm] [(hm, .inr (6, [.int th, .ref m1, .ref m2, .ref m3, .ref m4, .ref m5, .int dr, .ref m7, .int kn, .ref m9, .ref m10, .ref m11, .ref m12, .ref m13, .int rl, .ref m15, .ref m16, .ref m17]))] (fun (_ : Unit) => True) (fun (_ : Unit) => some (.int th)) := by
  refine PM.ofG cX6_thrown 1 (some .int) (by decide +kernel) rfl (Nat.le_of_ble_eq_true rfl) ?_
  intro p e s m below meth c B hr hlocks hname hK hN
  refine g_aload_n B dX6_thrown_0 0 rfl ?_
  refine g_get (C := RX6) (T := TX6) (N := 18) (ci := 6) B hK hin_X6_thrown_RX6 0 rfl rfl 0 (by decide) (List.mem_of_getElem? (i := 1) rfl) rfl (v := .int th) rfl dX6_thrown_1 ?_
  exact g_iret_p B hr rfl hlocks () (rfl) (trivial) dX6_thrown_4

set_option maxHeartbeats 4000000 in
set_option maxRecDepth 100000 in
theorem r_no (l : Launch) {D : va_G} {cI cL cZ : ClassId} (hm : Nat) (m1 : Nat) (m2 : Nat) (m3 : Nat) (m4 : Nat) (m5 : Nat) (m7 : Nat) (m9 : Nat) (m10 : Nat) (m11 : Nat) (m12 : Nat) (m13 : Nat) (m15 : Nat) (m16 : Nat) (m17 : Nat) (th : Int32) (dr : Int32) (kn : Int32) (rl : Int32) (n1 : Int32)  : WM l yX6_no wsX6_no ({ frames := 0, cells := 0, slots := 0, locals := 0 } : Room) D (gTys cI cL cZ) [.ref hm, .int n1] [(hm, .inr (6, [.int th, .ref m1, .ref m2, .ref m3, .ref m4, .ref m5, .int dr, .ref m7, .int kn, .ref m9, .ref m10, .ref m11, .ref m12, .ref m13, .int rl, .ref m15, .ref m16, .ref m17]))] (fun (_ : Unit) => True) (fun (_ : Unit) => some (.int (0 : Int32))) (fun (_ : Unit) => [(hm, .inr (6, [.int n1, .ref m1, .ref m2, .ref m3, .ref m4, .ref m5, .int dr, .ref m7, .int kn, .ref m9, .ref m10, .ref m11, .ref m12, .ref m13, .int rl, .ref m15, .ref m16, .ref m17]))]) := by
  refine WM.ofG cX6_no 2 (some .int) (by decide +kernel) rfl (Nat.le_of_ble_eq_true rfl) ?_
  intro p e s m below meth c A hA B hr hlocks hname hK hN
  refine g_aload_n B dX6_no_0 0 rfl ?_
  refine g_iload_n B dX6_no_1 1 rfl ?_
  refine g_put (C := RX6) (T := TX6) (N := 18) (ci := 6) B hK hin_X6_no_RX6 0 rfl rfl 0 (by decide) tyX6 tyX6_ok nmX6 (List.mem_of_getElem? (i := 1) rfl) rfl rfl (ty := .int) (v := .int n1) (by decide +kernel) rfl rfl (Nat.le_of_ble_eq_true rfl) (w2 := [(hm, .inr (6, [.int n1, .ref m1, .ref m2, .ref m3, .ref m4, .ref m5, .int dr, .ref m7, .int kn, .ref m9, .ref m10, .ref m11, .ref m12, .ref m13, .int rl, .ref m15, .ref m16, .ref m17]))]) rfl (fun _ h => h) dX6_no_2 ?_
  refine g_iconst (v := (0 : Int32)) B dX6_no_5 (by decide) ?_
  exact g_iret_w B hr rfl hlocks () (rfl) (trivial) [0] (by decide) rfl dX6_no_6

set_option maxHeartbeats 4000000 in
set_option maxRecDepth 100000 in
theorem r_isIn_n (l : Launch) {D : va_G} {cI cL cZ : ClassId} (v1 : Nat) (v2 : Nat) (v3 : Nat) (h1 : v2 ≤ v1) (h2 : v1 ≤ v3) (h3 : v3 < 2 ^ 31) : PM l yX6_isIn wsX6_isIn ({ frames := 0, cells := 0, slots := 0, locals := 0 } : Room) D (gTys cI cL cZ) [.int (nI v1), .int (nI v2), .int (nI v3)] [] (fun (_ : Unit) => True) (fun (_ : Unit) => some (.int (1 : Int32))) := by
  refine PM.ofG cX6_isIn 3 (some .boolean) (by decide +kernel) rfl (Nat.le_of_ble_eq_true rfl) ?_
  intro p e s m below meth c B hr hlocks hname hK hN
  refine g_iload_n B dX6_isIn_0 0 rfl ?_
  refine g_iload_n B dX6_isIn_1 1 rfl ?_
  refine g_ncmp_lt (tgt := 14) B v1 v2 rfl rfl (by omega) (by omega) dX6_isIn_2 (by decide) (fun c1 => ?_) (fun c1 => ?_)
  · exfalso; omega
  refine g_iload_n B dX6_isIn_5 0 rfl ?_
  refine g_iload_n B dX6_isIn_6 2 rfl ?_
  refine g_ncmp_gt (tgt := 14) B v1 v3 rfl rfl (by omega) (by omega) dX6_isIn_7 (by decide) (fun c2 => ?_) (fun c2 => ?_)
  · exfalso; omega
  refine g_iconst (v := (1 : Int32)) B dX6_isIn_10 (by decide) ?_
  refine g_goto (tgt := 15) B dX6_isIn_11 (by decide) ?_
  exact g_iret_p B hr rfl hlocks () (rfl) (trivial) dX6_isIn_15

set_option maxHeartbeats 4000000 in
set_option maxRecDepth 100000 in
theorem r_isIn_t (l : Launch) {D : va_G} {cI cL cZ : ClassId} (v1 : Int32) (v2 : Int32) (v3 : Int32) (h1 : inR v1 v2 v3 = true) : PM l yX6_isIn wsX6_isIn ({ frames := 0, cells := 0, slots := 0, locals := 0 } : Room) D (gTys cI cL cZ) [.int v1, .int v2, .int v3] [] (fun (_ : Unit) => True) (fun (_ : Unit) => some (.int (1 : Int32))) := by
  refine PM.ofG cX6_isIn 3 (some .boolean) (by decide +kernel) rfl (Nat.le_of_ble_eq_true rfl) ?_
  intro p e s m below meth c B hr hlocks hname hK hN
  simp only [inR, Bool.and_eq_true, decide_eq_true_eq] at h1
  refine g_iload_n B dX6_isIn_0 0 rfl ?_
  refine g_iload_n B dX6_isIn_1 1 rfl ?_
  refine g_icmp_lt (tgt := 14) B dX6_isIn_2 (by decide) (fun c1 => ?_) (fun c1 => ?_)
  · exfalso; exact absurd h1.1 (Int32.not_le.mpr c1)
  refine g_iload_n B dX6_isIn_5 0 rfl ?_
  refine g_iload_n B dX6_isIn_6 2 rfl ?_
  refine g_icmp_gt (tgt := 14) B dX6_isIn_7 (by decide) (fun c2 => ?_) (fun c2 => ?_)
  · exfalso; exact absurd h1.2 (Int32.not_le.mpr c2)
  refine g_iconst (v := (1 : Int32)) B dX6_isIn_10 (by decide) ?_
  refine g_goto (tgt := 15) B dX6_isIn_11 (by decide) ?_
  exact g_iret_p B hr rfl hlocks () (rfl) (trivial) dX6_isIn_15

set_option maxHeartbeats 4000000 in
set_option maxRecDepth 100000 in
theorem r_isIn_f (l : Launch) {D : va_G} {cI cL cZ : ClassId} (v1 : Int32) (v2 : Int32) (v3 : Int32) (h1 : inR v1 v2 v3 = false) : PM l yX6_isIn wsX6_isIn ({ frames := 0, cells := 0, slots := 0, locals := 0 } : Room) D (gTys cI cL cZ) [.int v1, .int v2, .int v3] [] (fun (_ : Unit) => True) (fun (_ : Unit) => some (.int (0 : Int32))) := by
  refine PM.ofG cX6_isIn 3 (some .boolean) (by decide +kernel) rfl (Nat.le_of_ble_eq_true rfl) ?_
  intro p e s m below meth c B hr hlocks hname hK hN
  refine g_iload_n B dX6_isIn_0 0 rfl ?_
  refine g_iload_n B dX6_isIn_1 1 rfl ?_
  refine g_icmp_lt (tgt := 14) B dX6_isIn_2 (by decide) (fun c1 => ?_) (fun c1 => ?_)
  · refine g_iconst (v := (0 : Int32)) B dX6_isIn_14 (by decide) ?_
    exact g_iret_p B hr rfl hlocks () (rfl) (trivial) dX6_isIn_15
  · refine g_iload_n B dX6_isIn_5 0 rfl ?_
    refine g_iload_n B dX6_isIn_6 2 rfl ?_
    refine g_icmp_gt (tgt := 14) B dX6_isIn_7 (by decide) (fun c2 => ?_) (fun c2 => ?_)
    rotate_left; · exfalso; simp [inR, Int32.not_lt.mp c1, Int32.not_lt.mp c2] at h1
    refine g_iconst (v := (0 : Int32)) B dX6_isIn_14 (by decide) ?_
    exact g_iret_p B hr rfl hlocks () (rfl) (trivial) dX6_isIn_15

set_option maxHeartbeats 4000000 in
set_option maxRecDepth 100000 in
theorem r_isIn_e (l : Launch) {D : va_G} {cI cL cZ : ClassId} (v1 : Int32)  : PM l yX6_isIn wsX6_isIn ({ frames := 0, cells := 0, slots := 0, locals := 0 } : Room) D (gTys cI cL cZ) [.int v1, .int (0 : Int32), .int (-1 : Int32)] [] (fun (_ : Unit) => True) (fun (_ : Unit) => some (.int (0 : Int32))) := by
  refine PM.ofG cX6_isIn 3 (some .boolean) (by decide +kernel) rfl (Nat.le_of_ble_eq_true rfl) ?_
  intro p e s m below meth c B hr hlocks hname hK hN
  refine g_iload_n B dX6_isIn_0 0 rfl ?_
  refine g_iload_n B dX6_isIn_1 1 rfl ?_
  refine g_icmp_lt (tgt := 14) B dX6_isIn_2 (by decide) (fun c1 => ?_) (fun c1 => ?_)
  · refine g_iconst (v := (0 : Int32)) B dX6_isIn_14 (by decide) ?_
    exact g_iret_p B hr rfl hlocks () (rfl) (trivial) dX6_isIn_15
  · refine g_iload_n B dX6_isIn_5 0 rfl ?_
    refine g_iload_n B dX6_isIn_6 2 rfl ?_
    refine g_icmp_gt (tgt := 14) B dX6_isIn_7 (by decide) (fun c2 => ?_) (fun c2 => ?_)
    rotate_left; · exfalso; exact absurd (Int32.le_trans (Int32.not_lt.mp c1) (Int32.not_lt.mp c2)) (by decide)
    refine g_iconst (v := (0 : Int32)) B dX6_isIn_14 (by decide) ?_
    exact g_iret_p B hr rfl hlocks () (rfl) (trivial) dX6_isIn_15

set_option maxHeartbeats 4000000 in
set_option maxRecDepth 100000 in
theorem r_isNode_n (l : Launch) {D : va_G} {cI cL cZ : ClassId} (v1 : Nat) (h1 : v1 < 12) : PM l yX6_isNode wsX6_isNode ({ frames := 1, cells := 0, slots := 0, locals := 22 } : Room) D (gTys cI cL cZ) [.int (nI v1)] [] (fun (_ : Unit) => True) (fun (_ : Unit) => some (.int (1 : Int32))) := by
  refine PM.ofG cX6_isNode 1 (some .boolean) (by decide +kernel) rfl (Nat.le_of_ble_eq_true rfl) ?_
  intro p e s m below meth c B hr hlocks hname hK hN
  refine g_iload_n B dX6_isNode_0 0 rfl ?_
  refine g_iconst (v := (0 : Int32)) B dX6_isNode_1 (by decide) ?_
  refine g_bipush (v := (11 : Int32)) B dX6_isNode_2 (by decide) ?_
  refine g_callP (g_runS B (PM.met (r_isIn_n l (D := D) (cI := cI) (cL := cL) (cZ := cZ) v1 0 11 (by omega) (by omega) (by omega))) (gPp.pre (av := [.int (nI v1), .int (0 : Int32), .int (11 : Int32)]) (wc := []) hK hN [] rfl (by decide)) gX6_isNode_X6_isIn rfl kd_X6_isIn ⟨by decide, by decide⟩ (st := []) rfl (Nat.le_of_ble_eq_true rfl) dX6_isNode_4 ⟨by decide, by decide⟩) (fun u hu => ?_)
  exact g_iret_p B hr rfl hlocks () (rfl) (trivial) dX6_isNode_7

set_option maxHeartbeats 4000000 in
set_option maxRecDepth 100000 in
theorem r_isNode_t (l : Launch) {D : va_G} {cI cL cZ : ClassId} (v1 : Int32) (h1 : inR v1 0 11 = true) : PM l yX6_isNode wsX6_isNode ({ frames := 1, cells := 0, slots := 0, locals := 22 } : Room) D (gTys cI cL cZ) [.int v1] [] (fun (_ : Unit) => True) (fun (_ : Unit) => some (.int (1 : Int32))) := by
  refine PM.ofG cX6_isNode 1 (some .boolean) (by decide +kernel) rfl (Nat.le_of_ble_eq_true rfl) ?_
  intro p e s m below meth c B hr hlocks hname hK hN
  refine g_iload_n B dX6_isNode_0 0 rfl ?_
  refine g_iconst (v := (0 : Int32)) B dX6_isNode_1 (by decide) ?_
  refine g_bipush (v := (11 : Int32)) B dX6_isNode_2 (by decide) ?_
  refine g_callP (g_runS B (PM.met (r_isIn_t l (D := D) (cI := cI) (cL := cL) (cZ := cZ) v1 (0 : Int32) (11 : Int32) (by first | assumption | exact hy (by assumption) | exact hz (by assumption)))) (gPp.pre (av := [.int v1, .int (0 : Int32), .int (11 : Int32)]) (wc := []) hK hN [] rfl (by decide)) gX6_isNode_X6_isIn rfl kd_X6_isIn ⟨by decide, by decide⟩ (st := []) rfl (Nat.le_of_ble_eq_true rfl) dX6_isNode_4 ⟨by decide, by decide⟩) (fun u hu => ?_)
  exact g_iret_p B hr rfl hlocks () (rfl) (trivial) dX6_isNode_7

set_option maxHeartbeats 4000000 in
set_option maxRecDepth 100000 in
theorem r_isNode_f (l : Launch) {D : va_G} {cI cL cZ : ClassId} (v1 : Int32) (h1 : inR v1 0 11 = false) : PM l yX6_isNode wsX6_isNode ({ frames := 1, cells := 0, slots := 0, locals := 22 } : Room) D (gTys cI cL cZ) [.int v1] [] (fun (_ : Unit) => True) (fun (_ : Unit) => some (.int (0 : Int32))) := by
  refine PM.ofG cX6_isNode 1 (some .boolean) (by decide +kernel) rfl (Nat.le_of_ble_eq_true rfl) ?_
  intro p e s m below meth c B hr hlocks hname hK hN
  refine g_iload_n B dX6_isNode_0 0 rfl ?_
  refine g_iconst (v := (0 : Int32)) B dX6_isNode_1 (by decide) ?_
  refine g_bipush (v := (11 : Int32)) B dX6_isNode_2 (by decide) ?_
  refine g_callP (g_runS B (PM.met (r_isIn_f l (D := D) (cI := cI) (cL := cL) (cZ := cZ) v1 (0 : Int32) (11 : Int32) (by first | assumption | exact hy (by assumption) | exact hz (by assumption)))) (gPp.pre (av := [.int v1, .int (0 : Int32), .int (11 : Int32)]) (wc := []) hK hN [] rfl (by decide)) gX6_isNode_X6_isIn rfl kd_X6_isIn ⟨by decide, by decide⟩ (st := []) rfl (Nat.le_of_ble_eq_true rfl) dX6_isNode_4 ⟨by decide, by decide⟩) (fun u hu => ?_)
  exact g_iret_p B hr rfl hlocks () (rfl) (trivial) dX6_isNode_7

set_option maxHeartbeats 4000000 in
set_option maxRecDepth 100000 in
theorem r_isSlot_n (l : Launch) {D : va_G} {cI cL cZ : ClassId} (v1 : Nat) (h1 : v1 < 4) : PM l yX6_isSlot wsX6_isSlot ({ frames := 1, cells := 0, slots := 0, locals := 22 } : Room) D (gTys cI cL cZ) [.int (nI v1)] [] (fun (_ : Unit) => True) (fun (_ : Unit) => some (.int (1 : Int32))) := by
  refine PM.ofG cX6_isSlot 1 (some .boolean) (by decide +kernel) rfl (Nat.le_of_ble_eq_true rfl) ?_
  intro p e s m below meth c B hr hlocks hname hK hN
  refine g_iload_n B dX6_isSlot_0 0 rfl ?_
  refine g_iconst (v := (0 : Int32)) B dX6_isSlot_1 (by decide) ?_
  refine g_iconst (v := (3 : Int32)) B dX6_isSlot_2 (by decide) ?_
  refine g_callP (g_runS B (PM.met (r_isIn_n l (D := D) (cI := cI) (cL := cL) (cZ := cZ) v1 0 3 (by omega) (by omega) (by omega))) (gPp.pre (av := [.int (nI v1), .int (0 : Int32), .int (3 : Int32)]) (wc := []) hK hN [] rfl (by decide)) gX6_isSlot_X6_isIn rfl kd_X6_isIn ⟨by decide, by decide⟩ (st := []) rfl (Nat.le_of_ble_eq_true rfl) dX6_isSlot_3 ⟨by decide, by decide⟩) (fun u hu => ?_)
  exact g_iret_p B hr rfl hlocks () (rfl) (trivial) dX6_isSlot_6

set_option maxHeartbeats 4000000 in
set_option maxRecDepth 100000 in
theorem r_isSlot_t (l : Launch) {D : va_G} {cI cL cZ : ClassId} (v1 : Int32) (h1 : inR v1 0 3 = true) : PM l yX6_isSlot wsX6_isSlot ({ frames := 1, cells := 0, slots := 0, locals := 22 } : Room) D (gTys cI cL cZ) [.int v1] [] (fun (_ : Unit) => True) (fun (_ : Unit) => some (.int (1 : Int32))) := by
  refine PM.ofG cX6_isSlot 1 (some .boolean) (by decide +kernel) rfl (Nat.le_of_ble_eq_true rfl) ?_
  intro p e s m below meth c B hr hlocks hname hK hN
  refine g_iload_n B dX6_isSlot_0 0 rfl ?_
  refine g_iconst (v := (0 : Int32)) B dX6_isSlot_1 (by decide) ?_
  refine g_iconst (v := (3 : Int32)) B dX6_isSlot_2 (by decide) ?_
  refine g_callP (g_runS B (PM.met (r_isIn_t l (D := D) (cI := cI) (cL := cL) (cZ := cZ) v1 (0 : Int32) (3 : Int32) (by first | assumption | exact hy (by assumption) | exact hz (by assumption)))) (gPp.pre (av := [.int v1, .int (0 : Int32), .int (3 : Int32)]) (wc := []) hK hN [] rfl (by decide)) gX6_isSlot_X6_isIn rfl kd_X6_isIn ⟨by decide, by decide⟩ (st := []) rfl (Nat.le_of_ble_eq_true rfl) dX6_isSlot_3 ⟨by decide, by decide⟩) (fun u hu => ?_)
  exact g_iret_p B hr rfl hlocks () (rfl) (trivial) dX6_isSlot_6

set_option maxHeartbeats 4000000 in
set_option maxRecDepth 100000 in
theorem r_isSlot_f (l : Launch) {D : va_G} {cI cL cZ : ClassId} (v1 : Int32) (h1 : inR v1 0 3 = false) : PM l yX6_isSlot wsX6_isSlot ({ frames := 1, cells := 0, slots := 0, locals := 22 } : Room) D (gTys cI cL cZ) [.int v1] [] (fun (_ : Unit) => True) (fun (_ : Unit) => some (.int (0 : Int32))) := by
  refine PM.ofG cX6_isSlot 1 (some .boolean) (by decide +kernel) rfl (Nat.le_of_ble_eq_true rfl) ?_
  intro p e s m below meth c B hr hlocks hname hK hN
  refine g_iload_n B dX6_isSlot_0 0 rfl ?_
  refine g_iconst (v := (0 : Int32)) B dX6_isSlot_1 (by decide) ?_
  refine g_iconst (v := (3 : Int32)) B dX6_isSlot_2 (by decide) ?_
  refine g_callP (g_runS B (PM.met (r_isIn_f l (D := D) (cI := cI) (cL := cL) (cZ := cZ) v1 (0 : Int32) (3 : Int32) (by first | assumption | exact hy (by assumption) | exact hz (by assumption)))) (gPp.pre (av := [.int v1, .int (0 : Int32), .int (3 : Int32)]) (wc := []) hK hN [] rfl (by decide)) gX6_isSlot_X6_isIn rfl kd_X6_isIn ⟨by decide, by decide⟩ (st := []) rfl (Nat.le_of_ble_eq_true rfl) dX6_isSlot_3 ⟨by decide, by decide⟩) (fun u hu => ?_)
  exact g_iret_p B hr rfl hlocks () (rfl) (trivial) dX6_isSlot_6

set_option maxHeartbeats 4000000 in
set_option maxRecDepth 100000 in
theorem r_isCase_n (l : Launch) {D : va_G} {cI cL cZ : ClassId} (v1 : Nat) (h1 : v1 < 10000) : PM l yX6_isCase wsX6_isCase ({ frames := 1, cells := 0, slots := 0, locals := 22 } : Room) D (gTys cI cL cZ) [.int (nI v1)] [] (fun (_ : Unit) => True) (fun (_ : Unit) => some (.int (1 : Int32))) := by
  refine PM.ofG cX6_isCase 1 (some .boolean) (by decide +kernel) rfl (Nat.le_of_ble_eq_true rfl) ?_
  intro p e s m below meth c B hr hlocks hname hK hN
  refine g_iload_n B dX6_isCase_0 0 rfl ?_
  refine g_iconst (v := (0 : Int32)) B dX6_isCase_1 (by decide) ?_
  refine g_sipush (v := (9999 : Int32)) B dX6_isCase_2 (by decide) ?_
  refine g_callP (g_runS B (PM.met (r_isIn_n l (D := D) (cI := cI) (cL := cL) (cZ := cZ) v1 0 9999 (by omega) (by omega) (by omega))) (gPp.pre (av := [.int (nI v1), .int (0 : Int32), .int (9999 : Int32)]) (wc := []) hK hN [] rfl (by decide)) gX6_isCase_X6_isIn rfl kd_X6_isIn ⟨by decide, by decide⟩ (st := []) rfl (Nat.le_of_ble_eq_true rfl) dX6_isCase_5 ⟨by decide, by decide⟩) (fun u hu => ?_)
  exact g_iret_p B hr rfl hlocks () (rfl) (trivial) dX6_isCase_8

set_option maxHeartbeats 4000000 in
set_option maxRecDepth 100000 in
theorem r_isCase_t (l : Launch) {D : va_G} {cI cL cZ : ClassId} (v1 : Int32) (h1 : inR v1 0 9999 = true) : PM l yX6_isCase wsX6_isCase ({ frames := 1, cells := 0, slots := 0, locals := 22 } : Room) D (gTys cI cL cZ) [.int v1] [] (fun (_ : Unit) => True) (fun (_ : Unit) => some (.int (1 : Int32))) := by
  refine PM.ofG cX6_isCase 1 (some .boolean) (by decide +kernel) rfl (Nat.le_of_ble_eq_true rfl) ?_
  intro p e s m below meth c B hr hlocks hname hK hN
  refine g_iload_n B dX6_isCase_0 0 rfl ?_
  refine g_iconst (v := (0 : Int32)) B dX6_isCase_1 (by decide) ?_
  refine g_sipush (v := (9999 : Int32)) B dX6_isCase_2 (by decide) ?_
  refine g_callP (g_runS B (PM.met (r_isIn_t l (D := D) (cI := cI) (cL := cL) (cZ := cZ) v1 (0 : Int32) (9999 : Int32) (by first | assumption | exact hy (by assumption) | exact hz (by assumption)))) (gPp.pre (av := [.int v1, .int (0 : Int32), .int (9999 : Int32)]) (wc := []) hK hN [] rfl (by decide)) gX6_isCase_X6_isIn rfl kd_X6_isIn ⟨by decide, by decide⟩ (st := []) rfl (Nat.le_of_ble_eq_true rfl) dX6_isCase_5 ⟨by decide, by decide⟩) (fun u hu => ?_)
  exact g_iret_p B hr rfl hlocks () (rfl) (trivial) dX6_isCase_8

set_option maxHeartbeats 4000000 in
set_option maxRecDepth 100000 in
theorem r_isCase_f (l : Launch) {D : va_G} {cI cL cZ : ClassId} (v1 : Int32) (h1 : inR v1 0 9999 = false) : PM l yX6_isCase wsX6_isCase ({ frames := 1, cells := 0, slots := 0, locals := 22 } : Room) D (gTys cI cL cZ) [.int v1] [] (fun (_ : Unit) => True) (fun (_ : Unit) => some (.int (0 : Int32))) := by
  refine PM.ofG cX6_isCase 1 (some .boolean) (by decide +kernel) rfl (Nat.le_of_ble_eq_true rfl) ?_
  intro p e s m below meth c B hr hlocks hname hK hN
  refine g_iload_n B dX6_isCase_0 0 rfl ?_
  refine g_iconst (v := (0 : Int32)) B dX6_isCase_1 (by decide) ?_
  refine g_sipush (v := (9999 : Int32)) B dX6_isCase_2 (by decide) ?_
  refine g_callP (g_runS B (PM.met (r_isIn_f l (D := D) (cI := cI) (cL := cL) (cZ := cZ) v1 (0 : Int32) (9999 : Int32) (by first | assumption | exact hy (by assumption) | exact hz (by assumption)))) (gPp.pre (av := [.int v1, .int (0 : Int32), .int (9999 : Int32)]) (wc := []) hK hN [] rfl (by decide)) gX6_isCase_X6_isIn rfl kd_X6_isIn ⟨by decide, by decide⟩ (st := []) rfl (Nat.le_of_ble_eq_true rfl) dX6_isCase_5 ⟨by decide, by decide⟩) (fun u hu => ?_)
  exact g_iret_p B hr rfl hlocks () (rfl) (trivial) dX6_isCase_8

set_option maxHeartbeats 4000000 in
set_option maxRecDepth 100000 in
theorem r_worth_0 (l : Launch) {D : va_G} {cI cL cZ : ClassId}   : PM l yX6_worth wsX6_worth ({ frames := 0, cells := 0, slots := 0, locals := 0 } : Room) D (gTys cI cL cZ) [.int (0 : Int32)] [] (fun (_ : Unit) => True) (fun (_ : Unit) => some (.int (1000 : Int32))) := by
  refine PM.ofG cX6_worth 1 (some .int) (by decide +kernel) rfl (Nat.le_of_ble_eq_true rfl) ?_
  intro p e s m below meth c B hr hlocks hname hK hN
  refine g_iload_n B dX6_worth_0 0 rfl ?_
  refine g_if_ne (tgt := 10) B dX6_worth_1 (by decide) (fun c1 => absurd (by decide) c1) (fun _ => ?_)
  refine g_sipush (v := (1000 : Int32)) B dX6_worth_4 (by decide) ?_
  refine g_goto (tgt := 31) B dX6_worth_7 (by decide) ?_
  exact g_iret_p B hr rfl hlocks () (rfl) (trivial) dX6_worth_31

set_option maxHeartbeats 4000000 in
set_option maxRecDepth 100000 in
theorem r_valueOf_0 (l : Launch) {D : va_G} {cI cL cZ : ClassId} (t : Nat) (ht : t < 10000) : PM l yX6_valueOf wsX6_valueOf ({ frames := 1, cells := 0, slots := 0, locals := 20 } : Room) D (gTys cI cL cZ) [.int (nI t), .int (0 : Int32)] [] (fun (r : Int32) => r = nI (t / 1000 % 10)) (fun (r : Int32) => some (.int r)) := by
  refine PM.ofG cX6_valueOf 2 (some .int) (by decide +kernel) rfl (Nat.le_of_ble_eq_true rfl) ?_
  intro p e s m below meth c B hr hlocks hname hK hN
  refine g_iload_n B dX6_valueOf_0 0 rfl ?_
  refine g_iload_n B dX6_valueOf_1 1 rfl ?_
  refine g_callP (g_runS B (PM.met (r_worth_0 l (D := D) (cI := cI) (cL := cL) (cZ := cZ)  )) (gPp.pre (av := [.int (0 : Int32)]) (wc := []) hK hN [] rfl (by decide)) gX6_valueOf_X6_worth rfl kd_X6_worth ⟨by decide, by decide⟩ (st := [.int (nI t)]) rfl (Nat.le_of_ble_eq_true rfl) dX6_valueOf_2 ⟨by decide, by decide⟩) (fun u hu => ?_)
  refine g_idiv (v := nI (t / 1000)) B dX6_valueOf_5 (by decide) (pk_div (a := t) (d := 1000) (by omega) (by decide) (by decide)) ?_
  refine g_bipush (v := (10 : Int32)) B dX6_valueOf_6 (by decide) ?_
  refine g_irem (v := nI ((t / 1000) % 10)) B dX6_valueOf_8 (by decide) (pk_rem (a := t / 1000) (d := 10) (by omega) (by decide) (by decide)) ?_
  exact g_iret_p B hr rfl hlocks (nI ((t / 1000) % 10)) (rfl) (rfl) dX6_valueOf_9

set_option maxHeartbeats 4000000 in
set_option maxRecDepth 100000 in
theorem r_edgeOf (l : Launch) {D : va_G} {cI cL cZ : ClassId} (hm : Nat) (m1 : Nat) (m2 : Nat) (m3 : Nat) (m4 : Nat) (m5 : Nat) (m7 : Nat) (m9 : Nat) (m10 : Nat) (m11 : Nat) (m12 : Nat) (m13 : Nat) (m15 : Nat) (m16 : Nat) (m17 : Nat) (th : Int32) (dr : Int32) (kn : Int32) (rl : Int32) (t : Nat) (ht : t < 10000) : PM l yX6_edgeOf wsX6_edgeOf ({ frames := 2, cells := 0, slots := 0, locals := 41 } : Room) D (gTys cI cL cZ) [.ref hm, .int (0 : Int32), .int (nI t)] [(hm, .inr (6, [.int th, .ref m1, .ref m2, .ref m3, .ref m4, .ref m5, .int dr, .ref m7, .int kn, .ref m9, .ref m10, .ref m11, .ref m12, .ref m13, .int rl, .ref m15, .ref m16, .ref m17])), (m1, .inl (cI, 12, .inl (fun _ => (0 : Int32)))), (m2, .inl (cI, 12, .inl (fun _ => (0 : Int32)))), (m3, .inl (cI, 12, .inl (fun _ => (0 : Int32))))] (fun (_ : Unit) => True) (fun (_ : Unit) => some (.int (1 : Int32))) := by
  refine PM.ofG cX6_edgeOf 5 (some .int) (by decide +kernel) rfl (Nat.le_of_ble_eq_true rfl) ?_
  intro p e s m below meth c B hr hlocks hname hK hN
  refine g_iload_n B dX6_edgeOf_0 2 rfl ?_
  refine g_aload_n B dX6_edgeOf_1 0 rfl ?_
  refine g_get (C := RX6) (T := TX6) (N := 18) (ci := 6) B hK hin_X6_edgeOf_RX6 0 rfl rfl 1 (by decide) (List.mem_of_getElem? (i := 1) rfl) rfl (v := .ref m1) rfl dX6_edgeOf_2 ?_
  refine g_iload_n B dX6_edgeOf_5 1 rfl ?_
  refine g_iald B hK 1 0 rfl rfl 0 rfl (by omega) (by omega) (v := (0 : Int32)) rfl dX6_edgeOf_6 ?_
  refine g_callP (g_runS B (PM.met (r_valueOf_0 l (D := D) (cI := cI) (cL := cL) (cZ := cZ) t (by omega))) (gPp.pre (av := [.int (nI t), .int (0 : Int32)]) (wc := []) hK hN [] rfl (by decide)) gX6_edgeOf_X6_valueOf rfl kd_X6_valueOf ⟨by decide, by decide⟩ (st := []) rfl (Nat.le_of_ble_eq_true rfl) dX6_edgeOf_7 ⟨by decide, by decide⟩) (fun u hu => ?_)
  obtain ⟨r_1, e9⟩ : ∃ z, z = u := ⟨_, rfl⟩; subst e9
  try dsimp only at hu ⊢
  have e1_0 := hu
  subst e1_0
  refine g_istore_n (lv' := [(0, .ref hm), (1, .int (0 : Int32)), (2, .int (nI t)), (3, .int (nI (t / 1000 % 10)))]) B dX6_edgeOf_10 rfl (by decide) [1, 2, 3, 0] rfl ?_
  refine g_aload_n B dX6_edgeOf_11 0 rfl ?_
  refine g_get (C := RX6) (T := TX6) (N := 18) (ci := 6) B hK hin_X6_edgeOf_RX6 0 rfl rfl 2 (by decide) (List.mem_of_getElem? (i := 2) rfl) rfl (v := .ref m2) rfl dX6_edgeOf_12 ?_
  refine g_iload_n B dX6_edgeOf_15 1 rfl ?_
  refine g_iald B hK 2 0 rfl rfl 0 rfl (by omega) (by omega) (v := (0 : Int32)) rfl dX6_edgeOf_16 ?_
  refine g_if_ne (tgt := 38) B dX6_edgeOf_17 (by decide) (fun c2 => absurd (by decide) c2) (fun _ => ?_)
  refine g_iload_n B dX6_edgeOf_20 3 rfl ?_
  refine g_aload_n B dX6_edgeOf_21 0 rfl ?_
  refine g_get (C := RX6) (T := TX6) (N := 18) (ci := 6) B hK hin_X6_edgeOf_RX6 0 rfl rfl 3 (by decide) (List.mem_of_getElem? (i := 3) rfl) rfl (v := .ref m3) rfl dX6_edgeOf_22 ?_
  refine g_iload_n B dX6_edgeOf_25 1 rfl ?_
  refine g_iald B hK 3 0 rfl rfl 0 rfl (by omega) (by omega) (v := (0 : Int32)) rfl dX6_edgeOf_26 ?_
  refine g_ncmp_ge (tgt := 34) B (t / 1000 % 10) 0 rfl rfl (by omega) (by omega) dX6_edgeOf_27 (by decide) (fun c3 => ?_) (fun c3 => ?_)
  rotate_left; · exfalso; omega
  refine g_iconst (v := (0 : Int32)) B dX6_edgeOf_34 (by decide) ?_
  refine g_goto (tgt := 81) B dX6_edgeOf_35 (by decide) ?_
  refine g_istore (lv' := [(0, .ref hm), (1, .int (0 : Int32)), (2, .int (nI t)), (3, .int (nI (t / 1000 % 10))), (4, .int (0 : Int32))]) B dX6_edgeOf_81 (by decide) [1, 2, 3, 4, 0] rfl ?_
  refine g_iconst (v := (2 : Int32)) B dX6_edgeOf_83 (by decide) ?_
  refine g_iload_n B dX6_edgeOf_84 1 rfl ?_
  refine g_imul (v := (0 : Int32)) B dX6_edgeOf_85 (by decide) ?_
  refine g_iload B dX6_edgeOf_86 4 rfl ?_
  refine g_if_eq (tgt := 95) B dX6_edgeOf_88 (by decide) (fun _ => ?_) (fun c4 => absurd (by decide) c4)
  refine g_iconst (v := (1 : Int32)) B dX6_edgeOf_95 (by decide) ?_
  refine g_iadd (v := (1 : Int32)) B dX6_edgeOf_96 (by decide) ?_
  exact g_iret_p B hr rfl hlocks () (rfl) (trivial) dX6_edgeOf_97

set_option maxHeartbeats 4000000 in
set_option maxRecDepth 100000 in
theorem r_way (l : Launch) {D : va_G} {cI cL cZ : ClassId} (hm : Nat) (m1 : Nat) (m2 : Nat) (m3 : Nat) (m4 : Nat) (m5 : Nat) (m7 : Nat) (m9 : Nat) (m10 : Nat) (m11 : Nat) (m12 : Nat) (m13 : Nat) (m15 : Nat) (m16 : Nat) (m17 : Nat) (th : Int32) (dr : Int32) (kn : Int32) (rl : Int32) (t : Nat) (ht : t < 10000) : WM l yX6_way wsX6_way ({ frames := 3, cells := 2, slots := 33, locals := 65 } : Room) D (gTys cI cL cZ) [.ref hm, .int (nI t)] [(hm, .inr (6, [.int th, .ref m1, .ref m2, .ref m3, .ref m4, .ref m5, .int dr, .ref m7, .int kn, .ref m9, .ref m10, .ref m11, .ref m12, .ref m13, .int rl, .ref m15, .ref m16, .ref m17])), (m1, .inl (cI, 12, .inl (fun _ => (0 : Int32)))), (m2, .inl (cI, 12, .inl (fun _ => (0 : Int32)))), (m3, .inl (cI, 12, .inl (fun _ => (0 : Int32)))), (m4, .inl (cI, 24, .inl (fun _ => (-1 : Int32)))), (m5, .inl (cZ, 12, .inl (fun _ => (0 : Int32))))] (fun (q : Nat) => True) (fun (q : Nat) => some (.ref q)) (fun (q : Nat) => [(hm, .inr (6, [.int th, .ref m1, .ref m2, .ref m3, .ref m4, .ref m5, .int dr, .ref m7, .int kn, .ref m9, .ref m10, .ref m11, .ref m12, .ref m13, .int rl, .ref m15, .ref m16, .ref m17])), (m1, .inl (cI, 12, .inl (fun _ => (0 : Int32)))), (m2, .inl (cI, 12, .inl (fun _ => (0 : Int32)))), (m3, .inl (cI, 12, .inl (fun _ => (0 : Int32)))), (m4, .inl (cI, 24, .inl (fun _ => (-1 : Int32)))), (m5, .inl (cZ, 12, .inl (fun _ => (0 : Int32)))), (q, .inl (cI, 2, .inl (upd (upd (fun _ => (0 : Int32)) 0 (1 : Int32)) 1 (1 : Int32))))]) := by
  refine WM.ofG cX6_way 6 (some (.array .int)) (by decide +kernel) rfl (Nat.le_of_ble_eq_true rfl) ?_
  intro p e s m below meth c A hA B hr hlocks hname hK hN
  refine g_bipush (v := (31 : Int32)) B dX6_way_0 (by decide) ?_
  refine g_newa B hK hA 0 rfl rfl (List.mem_of_getElem? (i := 1) rfl) rfl (31, .inl (fun _ => (0 : Int32))) (cellI_new 31) (by decide) (by decide) (by decide) (by decide) (by decide) dX6_way_2 (fun q1 => ?_)
  refine g_eqw (w2 := [(hm, .inr (6, [.int th, .ref m1, .ref m2, .ref m3, .ref m4, .ref m5, .int dr, .ref m7, .int kn, .ref m9, .ref m10, .ref m11, .ref m12, .ref m13, .int rl, .ref m15, .ref m16, .ref m17])), (m1, .inl (cI, 12, .inl (fun _ => (0 : Int32)))), (m2, .inl (cI, 12, .inl (fun _ => (0 : Int32)))), (m3, .inl (cI, 12, .inl (fun _ => (0 : Int32)))), (m4, .inl (cI, 24, .inl (fun _ => (-1 : Int32)))), (m5, .inl (cZ, 12, .inl (fun _ => (0 : Int32)))), (q1, .inl (cI, 31, .inl (fun _ => (0 : Int32))))]) rfl ?_
  refine g_astore_n (lv' := [(0, .ref hm), (1, .int (nI t)), (2, .ref q1)]) B dX6_way_4 rfl (by decide) [1, 2, 0] rfl ?_
  refine g_iconst (v := (0 : Int32)) B dX6_way_5 (by decide) ?_
  refine g_istore_n (lv' := [(0, .ref hm), (1, .int (nI t)), (2, .ref q1), (3, .int (0 : Int32))]) B dX6_way_6 rfl (by decide) [1, 2, 3, 0] rfl ?_
  refine g_iconst (v := (0 : Int32)) B dX6_way_7 (by decide) ?_
  refine g_istore (lv' := [(0, .ref hm), (1, .int (nI t)), (2, .ref q1), (3, .int (0 : Int32)), (4, .int (0 : Int32))]) B dX6_way_8 (by decide) [1, 2, 3, 4, 0] rfl ?_
  refine g_iload B dX6_way_10 4 rfl ?_
  refine g_iconst (v := (-1 : Int32)) B dX6_way_12 (by decide) ?_
  refine g_icmp_eq (tgt := 58) B dX6_way_13 (by decide) (fun c2 => absurd c2 (by decide)) (fun _ => ?_)
  refine g_aload_n B dX6_way_16 0 rfl ?_
  refine g_get (C := RX6) (T := TX6) (N := 18) (ci := 6) B hK hin_X6_way_RX6 0 rfl rfl 5 (by decide) (List.mem_of_getElem? (i := 2) rfl) rfl (v := .ref m5) rfl dX6_way_17 ?_
  refine g_iload B dX6_way_20 4 rfl ?_
  refine g_zald B hK 5 2 rfl rfl 0 rfl (by omega) (by omega) (v := (0 : Int32)) rfl dX6_way_22 ?_
  refine g_if_ne (tgt := 58) B dX6_way_23 (by decide) (fun c3 => absurd (by decide) c3) (fun _ => ?_)
  refine g_iload_n B dX6_way_26 3 rfl ?_
  refine g_bipush (v := (30 : Int32)) B dX6_way_27 (by decide) ?_
  refine g_icmp_ge (tgt := 58) B dX6_way_29 (by decide) (fun c4 => absurd c4 (by decide)) (fun _ => ?_)
  refine g_aload_n B dX6_way_32 2 rfl ?_
  refine g_iload_n B dX6_way_33 3 rfl ?_
  refine g_aload_n B dX6_way_34 0 rfl ?_
  refine g_iload B dX6_way_35 4 rfl ?_
  refine g_iload_n B dX6_way_37 1 rfl ?_
  refine g_callP (g_runV (q0 := 0) (ci := 6) B hK rfl rfl (PM.met (r_edgeOf l (D := D) (cI := cI) (cL := cL) (cZ := cZ) hm m1 m2 m3 m4 m5 m7 m9 m10 m11 m12 m13 m15 m16 m17 th dr kn rl t (by omega))) (gPp.pre (av := [.ref hm, .int (0 : Int32), .int (nI t)]) (wc := [(hm, .inr (6, [.int th, .ref m1, .ref m2, .ref m3, .ref m4, .ref m5, .int dr, .ref m7, .int kn, .ref m9, .ref m10, .ref m11, .ref m12, .ref m13, .int rl, .ref m15, .ref m16, .ref m17])), (m1, .inl (cI, 12, .inl (fun _ => (0 : Int32)))), (m2, .inl (cI, 12, .inl (fun _ => (0 : Int32)))), (m3, .inl (cI, 12, .inl (fun _ => (0 : Int32))))]) hK hN [0, 1, 2, 3] rfl (by decide)) gX6_way_X6_edgeOf rfl rfl kd_X6_edgeOf ⟨by decide, by decide⟩ (st := [.int (0 : Int32), .ref q1]) rfl (Nat.le_of_ble_eq_true rfl) dX6_way_38 ⟨by decide, by decide⟩) (fun u hu => ?_)
  refine g_iast B hK 6 0 rfl rfl 0 rfl (by omega) (by omega) (f2 := (upd (fun _ => (0 : Int32)) 0 (1 : Int32))) (rfl) (w2 := [(hm, .inr (6, [.int th, .ref m1, .ref m2, .ref m3, .ref m4, .ref m5, .int dr, .ref m7, .int kn, .ref m9, .ref m10, .ref m11, .ref m12, .ref m13, .int rl, .ref m15, .ref m16, .ref m17])), (m1, .inl (cI, 12, .inl (fun _ => (0 : Int32)))), (m2, .inl (cI, 12, .inl (fun _ => (0 : Int32)))), (m3, .inl (cI, 12, .inl (fun _ => (0 : Int32)))), (m4, .inl (cI, 24, .inl (fun _ => (-1 : Int32)))), (m5, .inl (cZ, 12, .inl (fun _ => (0 : Int32)))), (q1, .inl (cI, 31, .inl (upd (fun _ => (0 : Int32)) 0 (1 : Int32))))]) rfl (fun _ h => h) dX6_way_41 ?_
  refine g_aload_n B dX6_way_42 0 rfl ?_
  refine g_get (C := RX6) (T := TX6) (N := 18) (ci := 6) B hK hin_X6_way_RX6 0 rfl rfl 4 (by decide) (List.mem_of_getElem? (i := 3) rfl) rfl (v := .ref m4) rfl dX6_way_43 ?_
  refine g_aload_n B dX6_way_46 2 rfl ?_
  refine g_iload_n B dX6_way_47 3 rfl ?_
  refine g_iinc (lv' := [(0, .ref hm), (1, .int (nI t)), (2, .ref q1), (3, .int (1 : Int32)), (4, .int (0 : Int32))]) B dX6_way_48 3 rfl (by decide) (by decide) [1, 2, 3, 0, 4] rfl ?_
  refine g_iald B hK 6 0 rfl rfl 0 rfl (by omega) (by omega) (v := (1 : Int32)) rfl dX6_way_51 ?_
  refine g_iald B hK 4 0 rfl rfl 1 rfl (by omega) (by omega) (v := (-1 : Int32)) rfl dX6_way_52 ?_
  refine g_istore (lv' := [(0, .ref hm), (1, .int (nI t)), (2, .ref q1), (3, .int (1 : Int32)), (4, .int (-1 : Int32))]) B dX6_way_53 (by decide) [1, 2, 3, 4, 0] rfl ?_
  refine g_goto (tgt := 10) B dX6_way_55 (by decide) ?_
  refine g_iload B dX6_way_10 4 rfl ?_
  refine g_iconst (v := (-1 : Int32)) B dX6_way_12 (by decide) ?_
  refine g_icmp_eq (tgt := 58) B dX6_way_13 (by decide) (fun _ => ?_) (fun c6 => absurd (by decide) c6)
  refine g_iload_n B dX6_way_58 3 rfl ?_
  refine g_iconst (v := (1 : Int32)) B dX6_way_59 (by decide) ?_
  refine g_iadd (v := (2 : Int32)) B dX6_way_60 (by decide) ?_
  refine g_newa B hK hA 0 rfl rfl (List.mem_of_getElem? (i := 1) rfl) rfl (2, .inl (fun _ => (0 : Int32))) (cellI_new 2) (by decide) (by decide) (by decide) (by decide) (by decide) dX6_way_61 (fun q7 => ?_)
  refine g_eqw (w2 := [(hm, .inr (6, [.int th, .ref m1, .ref m2, .ref m3, .ref m4, .ref m5, .int dr, .ref m7, .int kn, .ref m9, .ref m10, .ref m11, .ref m12, .ref m13, .int rl, .ref m15, .ref m16, .ref m17])), (m1, .inl (cI, 12, .inl (fun _ => (0 : Int32)))), (m2, .inl (cI, 12, .inl (fun _ => (0 : Int32)))), (m3, .inl (cI, 12, .inl (fun _ => (0 : Int32)))), (m4, .inl (cI, 24, .inl (fun _ => (-1 : Int32)))), (m5, .inl (cZ, 12, .inl (fun _ => (0 : Int32)))), (q1, .inl (cI, 31, .inl (upd (fun _ => (0 : Int32)) 0 (1 : Int32)))), (q7, .inl (cI, 2, .inl (fun _ => (0 : Int32))))]) rfl ?_
  refine g_astore (lv' := [(0, .ref hm), (1, .int (nI t)), (2, .ref q1), (3, .int (1 : Int32)), (4, .int (-1 : Int32)), (5, .ref q7)]) B dX6_way_63 (by decide) [1, 2, 3, 4, 5, 0] rfl ?_
  refine g_aload_n B dX6_way_65 2 rfl ?_
  refine g_iconst (v := (0 : Int32)) B dX6_way_66 (by decide) ?_
  refine g_aload B dX6_way_67 5 rfl ?_
  refine g_iconst (v := (0 : Int32)) B dX6_way_69 (by decide) ?_
  refine g_iload_n B dX6_way_70 3 rfl ?_
  refine g_copyi B hK (List.mem_of_getElem? (i := 4) rfl) (List.mem_of_getElem? (i := 5) rfl) (List.mem_of_getElem? (i := 6) rfl) (List.mem_of_getElem? (i := 7) rfl) 6 7 0 rfl rfl rfl rfl 0 0 1 rfl rfl rfl (by decide) (by decide) (by decide) (by decide) (upd (fun _ => (0 : Int32)) 0 (1 : Int32)) (by decide) (w2 := [(hm, .inr (6, [.int th, .ref m1, .ref m2, .ref m3, .ref m4, .ref m5, .int dr, .ref m7, .int kn, .ref m9, .ref m10, .ref m11, .ref m12, .ref m13, .int rl, .ref m15, .ref m16, .ref m17])), (m1, .inl (cI, 12, .inl (fun _ => (0 : Int32)))), (m2, .inl (cI, 12, .inl (fun _ => (0 : Int32)))), (m3, .inl (cI, 12, .inl (fun _ => (0 : Int32)))), (m4, .inl (cI, 24, .inl (fun _ => (-1 : Int32)))), (m5, .inl (cZ, 12, .inl (fun _ => (0 : Int32)))), (q1, .inl (cI, 31, .inl (upd (fun _ => (0 : Int32)) 0 (1 : Int32)))), (q7, .inl (cI, 2, .inl (upd (fun _ => (0 : Int32)) 0 (1 : Int32))))]) rfl (fun _ h => h) (by decide) (by decide) dX6_way_71 ?_
  refine g_aload B dX6_way_74 5 rfl ?_
  refine g_iload_n B dX6_way_76 3 rfl ?_
  refine g_iload B dX6_way_77 4 rfl ?_
  refine g_iconst (v := (-1 : Int32)) B dX6_way_79 (by decide) ?_
  refine g_icmp_ne (tgt := 91) B dX6_way_80 (by decide) (fun c8 => absurd (by decide) c8) (fun _ => ?_)
  refine g_aload_n B dX6_way_83 2 rfl ?_
  refine g_iload_n B dX6_way_84 3 rfl ?_
  refine g_iconst (v := (1 : Int32)) B dX6_way_85 (by decide) ?_
  refine g_isub (v := (0 : Int32)) B dX6_way_86 (by decide) ?_
  refine g_iald B hK 6 0 rfl rfl 0 rfl (by omega) (by omega) (v := (1 : Int32)) rfl dX6_way_87 ?_
  refine g_goto (tgt := 111) B dX6_way_88 (by decide) ?_
  refine g_iast B hK 7 0 rfl rfl 1 rfl (by omega) (by omega) (f2 := (upd (upd (fun _ => (0 : Int32)) 0 (1 : Int32)) 1 (1 : Int32))) (rfl) (w2 := [(hm, .inr (6, [.int th, .ref m1, .ref m2, .ref m3, .ref m4, .ref m5, .int dr, .ref m7, .int kn, .ref m9, .ref m10, .ref m11, .ref m12, .ref m13, .int rl, .ref m15, .ref m16, .ref m17])), (m1, .inl (cI, 12, .inl (fun _ => (0 : Int32)))), (m2, .inl (cI, 12, .inl (fun _ => (0 : Int32)))), (m3, .inl (cI, 12, .inl (fun _ => (0 : Int32)))), (m4, .inl (cI, 24, .inl (fun _ => (-1 : Int32)))), (m5, .inl (cZ, 12, .inl (fun _ => (0 : Int32)))), (q1, .inl (cI, 31, .inl (upd (fun _ => (0 : Int32)) 0 (1 : Int32)))), (q7, .inl (cI, 2, .inl (upd (upd (fun _ => (0 : Int32)) 0 (1 : Int32)) 1 (1 : Int32))))]) rfl (fun _ h => h) dX6_way_111 ?_
  refine g_aload B dX6_way_112 5 rfl ?_
  refine g_widen (k := 2) (n := 33) (by decide) (by decide) ?_
  exact g_aret_w B hr (Or.inr ⟨_, rfl⟩) hlocks q7 (rfl) (trivial) [0, 1, 2, 3, 4, 5, 7] (by decide) rfl dX6_way_114

set_option maxHeartbeats 4000000 in
set_option maxRecDepth 100000 in
theorem r_resultOf (l : Launch) {D : va_G} {cI cL cZ : ClassId} (hm : Nat) (m1 : Nat) (m2 : Nat) (m3 : Nat) (m4 : Nat) (m5 : Nat) (m7 : Nat) (m9 : Nat) (m10 : Nat) (m11 : Nat) (m12 : Nat) (m13 : Nat) (m15 : Nat) (m16 : Nat) (m17 : Nat) (th : Int32) (dr : Int32) (kn : Int32) (rl : Int32) (t : Nat) (ht : t < 10000) : WM l yX6_resultOf wsX6_resultOf ({ frames := 4, cells := 2, slots := 33, locals := 90 } : Room) D (gTys cI cL cZ) [.ref hm, .int (nI t)] [(hm, .inr (6, [.int th, .ref m1, .ref m2, .ref m3, .ref m4, .ref m5, .int dr, .ref m7, .int kn, .ref m9, .ref m10, .ref m11, .ref m12, .ref m13, .int rl, .ref m15, .ref m16, .ref m17])), (m1, .inl (cI, 12, .inl (fun _ => (0 : Int32)))), (m2, .inl (cI, 12, .inl (fun _ => (0 : Int32)))), (m3, .inl (cI, 12, .inl (fun _ => (0 : Int32)))), (m4, .inl (cI, 24, .inl (fun _ => (-1 : Int32)))), (m5, .inl (cZ, 12, .inl (fun _ => (0 : Int32))))] (fun (_ : Unit) => True) (fun (_ : Unit) => some (.int (1 : Int32))) (fun (_ : Unit) => [(hm, .inr (6, [.int th, .ref m1, .ref m2, .ref m3, .ref m4, .ref m5, .int dr, .ref m7, .int kn, .ref m9, .ref m10, .ref m11, .ref m12, .ref m13, .int rl, .ref m15, .ref m16, .ref m17])), (m1, .inl (cI, 12, .inl (fun _ => (0 : Int32)))), (m2, .inl (cI, 12, .inl (fun _ => (0 : Int32)))), (m3, .inl (cI, 12, .inl (fun _ => (0 : Int32)))), (m4, .inl (cI, 24, .inl (fun _ => (-1 : Int32)))), (m5, .inl (cZ, 12, .inl (fun _ => (0 : Int32))))]) := by
  refine WM.ofG cX6_resultOf 3 (some .int) (by decide +kernel) rfl (Nat.le_of_ble_eq_true rfl) ?_
  intro p e s m below meth c A hA B hr hlocks hname hK hN
  refine g_aload_n B dX6_resultOf_0 0 rfl ?_
  refine g_iload_n B dX6_resultOf_1 1 rfl ?_
  refine g_callW (w2 := (fun (q_1 : Nat) => [(hm, .inr (6, [.int th, .ref m1, .ref m2, .ref m3, .ref m4, .ref m5, .int dr, .ref m7, .int kn, .ref m9, .ref m10, .ref m11, .ref m12, .ref m13, .int rl, .ref m15, .ref m16, .ref m17])), (m1, .inl (cI, 12, .inl (fun _ => (0 : Int32)))), (m2, .inl (cI, 12, .inl (fun _ => (0 : Int32)))), (m3, .inl (cI, 12, .inl (fun _ => (0 : Int32)))), (m4, .inl (cI, 24, .inl (fun _ => (-1 : Int32)))), (m5, .inl (cZ, 12, .inl (fun _ => (0 : Int32)))), (q_1, .inl (cI, 2, .inl (upd (upd (fun _ => (0 : Int32)) 0 (1 : Int32)) 1 (1 : Int32))))])) (g_runV (q0 := 0) (ci := 6) B hK rfl rfl (r_way l (D := D) (cI := cI) (cL := cL) (cZ := cZ) hm m1 m2 m3 m4 m5 m7 m9 m10 m11 m12 m13 m15 m16 m17 th dr kn rl t (by omega)) (gPw.pre (av := [.ref hm, .int (nI t)]) (wc := [(hm, .inr (6, [.int th, .ref m1, .ref m2, .ref m3, .ref m4, .ref m5, .int dr, .ref m7, .int kn, .ref m9, .ref m10, .ref m11, .ref m12, .ref m13, .int rl, .ref m15, .ref m16, .ref m17])), (m1, .inl (cI, 12, .inl (fun _ => (0 : Int32)))), (m2, .inl (cI, 12, .inl (fun _ => (0 : Int32)))), (m3, .inl (cI, 12, .inl (fun _ => (0 : Int32)))), (m4, .inl (cI, 24, .inl (fun _ => (-1 : Int32)))), (m5, .inl (cZ, 12, .inl (fun _ => (0 : Int32))))]) hK hN [0, 1, 2, 3, 4, 5] rfl (by decide)) gX6_resultOf_X6_way rfl rfl kd_X6_way ⟨by decide, by decide⟩ (st := []) rfl (Nat.le_of_ble_eq_true rfl) dX6_resultOf_2 ⟨by decide, by decide⟩) hA (fun _ h => h) [0, 1, 2, 3, 4, 5] [] (wr := []) rfl rfl (by decide) (by decide) [0, 1, 2, 3, 4, 5, 6] (by decide) (fun _ => rfl) (fun u hu => ?_)
  obtain ⟨q_1, e9⟩ : ∃ z, z = u := ⟨_, rfl⟩; subst e9
  try dsimp only at hu ⊢
  refine g_astore_n (lv' := [(0, .ref hm), (1, .int (nI t)), (2, .ref q_1)]) B dX6_resultOf_5 rfl (by decide) [1, 2, 0] rfl ?_
  refine g_aload_n B dX6_resultOf_6 2 rfl ?_
  refine g_aload_n B dX6_resultOf_7 2 rfl ?_
  refine g_alen (v := (2 : Int32)) B hK 6 0 rfl rfl rfl dX6_resultOf_8 ?_
  refine g_iconst (v := (1 : Int32)) B dX6_resultOf_9 (by decide) ?_
  refine g_isub (v := (1 : Int32)) B dX6_resultOf_10 (by decide) ?_
  refine g_iald B hK 6 0 rfl rfl 1 rfl (by omega) (by omega) (v := (1 : Int32)) rfl dX6_resultOf_11 ?_
  refine g_widen (k := 2) (n := 33) (by (try dsimp only); omega) (by (try dsimp only); omega) ?_
  exact g_iret_w B hr rfl hlocks () (rfl) (trivial) [0, 1, 2, 3, 4, 5] (by decide) rfl dX6_resultOf_12

set_option maxHeartbeats 4000000 in
set_option maxRecDepth 100000 in
theorem r_edgesOf (l : Launch) {D : va_G} {cI cL cZ : ClassId} (hm : Nat) (m1 : Nat) (m2 : Nat) (m3 : Nat) (m4 : Nat) (m5 : Nat) (m7 : Nat) (m9 : Nat) (m10 : Nat) (m11 : Nat) (m12 : Nat) (m13 : Nat) (m15 : Nat) (m16 : Nat) (m17 : Nat) (th : Int32) (dr : Int32) (kn : Int32) (rl : Int32) (t : Nat) (ht : t < 10000) : WM l yX6_edgesOf wsX6_edgesOf ({ frames := 4, cells := 2, slots := 33, locals := 90 } : Room) D (gTys cI cL cZ) [.ref hm, .int (nI t)] [(hm, .inr (6, [.int th, .ref m1, .ref m2, .ref m3, .ref m4, .ref m5, .int dr, .ref m7, .int kn, .ref m9, .ref m10, .ref m11, .ref m12, .ref m13, .int rl, .ref m15, .ref m16, .ref m17])), (m1, .inl (cI, 12, .inl (fun _ => (0 : Int32)))), (m2, .inl (cI, 12, .inl (fun _ => (0 : Int32)))), (m3, .inl (cI, 12, .inl (fun _ => (0 : Int32)))), (m4, .inl (cI, 24, .inl (fun _ => (-1 : Int32)))), (m5, .inl (cZ, 12, .inl (fun _ => (0 : Int32))))] (fun (_ : Unit) => True) (fun (_ : Unit) => some (.int (2 : Int32))) (fun (_ : Unit) => [(hm, .inr (6, [.int th, .ref m1, .ref m2, .ref m3, .ref m4, .ref m5, .int dr, .ref m7, .int kn, .ref m9, .ref m10, .ref m11, .ref m12, .ref m13, .int rl, .ref m15, .ref m16, .ref m17])), (m1, .inl (cI, 12, .inl (fun _ => (0 : Int32)))), (m2, .inl (cI, 12, .inl (fun _ => (0 : Int32)))), (m3, .inl (cI, 12, .inl (fun _ => (0 : Int32)))), (m4, .inl (cI, 24, .inl (fun _ => (-1 : Int32)))), (m5, .inl (cZ, 12, .inl (fun _ => (0 : Int32))))]) := by
  refine WM.ofG cX6_edgesOf 5 (some .int) (by decide +kernel) rfl (Nat.le_of_ble_eq_true rfl) ?_
  intro p e s m below meth c A hA B hr hlocks hname hK hN
  refine g_aload_n B dX6_edgesOf_0 0 rfl ?_
  refine g_iload_n B dX6_edgesOf_1 1 rfl ?_
  refine g_callW (w2 := (fun (q_1 : Nat) => [(hm, .inr (6, [.int th, .ref m1, .ref m2, .ref m3, .ref m4, .ref m5, .int dr, .ref m7, .int kn, .ref m9, .ref m10, .ref m11, .ref m12, .ref m13, .int rl, .ref m15, .ref m16, .ref m17])), (m1, .inl (cI, 12, .inl (fun _ => (0 : Int32)))), (m2, .inl (cI, 12, .inl (fun _ => (0 : Int32)))), (m3, .inl (cI, 12, .inl (fun _ => (0 : Int32)))), (m4, .inl (cI, 24, .inl (fun _ => (-1 : Int32)))), (m5, .inl (cZ, 12, .inl (fun _ => (0 : Int32)))), (q_1, .inl (cI, 2, .inl (upd (upd (fun _ => (0 : Int32)) 0 (1 : Int32)) 1 (1 : Int32))))])) (g_runV (q0 := 0) (ci := 6) B hK rfl rfl (r_way l (D := D) (cI := cI) (cL := cL) (cZ := cZ) hm m1 m2 m3 m4 m5 m7 m9 m10 m11 m12 m13 m15 m16 m17 th dr kn rl t (by omega)) (gPw.pre (av := [.ref hm, .int (nI t)]) (wc := [(hm, .inr (6, [.int th, .ref m1, .ref m2, .ref m3, .ref m4, .ref m5, .int dr, .ref m7, .int kn, .ref m9, .ref m10, .ref m11, .ref m12, .ref m13, .int rl, .ref m15, .ref m16, .ref m17])), (m1, .inl (cI, 12, .inl (fun _ => (0 : Int32)))), (m2, .inl (cI, 12, .inl (fun _ => (0 : Int32)))), (m3, .inl (cI, 12, .inl (fun _ => (0 : Int32)))), (m4, .inl (cI, 24, .inl (fun _ => (-1 : Int32)))), (m5, .inl (cZ, 12, .inl (fun _ => (0 : Int32))))]) hK hN [0, 1, 2, 3, 4, 5] rfl (by decide)) gX6_edgesOf_X6_way rfl rfl kd_X6_way ⟨by decide, by decide⟩ (st := []) rfl (Nat.le_of_ble_eq_true rfl) dX6_edgesOf_2 ⟨by decide, by decide⟩) hA (fun _ h => h) [0, 1, 2, 3, 4, 5] [] (wr := []) rfl rfl (by decide) (by decide) [0, 1, 2, 3, 4, 5, 6] (by decide) (fun _ => rfl) (fun u hu => ?_)
  obtain ⟨q_1, e9⟩ : ∃ z, z = u := ⟨_, rfl⟩; subst e9
  try dsimp only at hu ⊢
  refine g_astore_n (lv' := [(0, .ref hm), (1, .int (nI t)), (2, .ref q_1)]) B dX6_edgesOf_5 rfl (by decide) [1, 2, 0] rfl ?_
  refine g_iconst (v := (0 : Int32)) B dX6_edgesOf_6 (by decide) ?_
  refine g_istore_n (lv' := [(0, .ref hm), (1, .int (nI t)), (2, .ref q_1), (3, .int (0 : Int32))]) B dX6_edgesOf_7 rfl (by decide) [1, 2, 3, 0] rfl ?_
  refine g_iconst (v := (0 : Int32)) B dX6_edgesOf_8 (by decide) ?_
  refine g_istore (lv' := [(0, .ref hm), (1, .int (nI t)), (2, .ref q_1), (3, .int (0 : Int32)), (4, .int (0 : Int32))]) B dX6_edgesOf_9 (by decide) [1, 2, 3, 4, 0] rfl ?_
  refine g_iload B dX6_edgesOf_11 4 rfl ?_
  refine g_iconst (v := (1 : Int32)) B dX6_edgesOf_13 (by decide) ?_
  refine g_iadd (v := (1 : Int32)) B dX6_edgesOf_14 (by decide) ?_
  refine g_aload_n B dX6_edgesOf_15 2 rfl ?_
  refine g_alen (v := (2 : Int32)) B hK 6 0 rfl rfl rfl dX6_edgesOf_16 ?_
  refine g_icmp_ge (tgt := 35) B dX6_edgesOf_17 (by decide) (fun c2 => absurd c2 (by decide)) (fun _ => ?_)
  refine g_iload_n B dX6_edgesOf_20 3 rfl ?_
  refine g_iconst (v := (1 : Int32)) B dX6_edgesOf_21 (by decide) ?_
  refine g_aload_n B dX6_edgesOf_22 2 rfl ?_
  refine g_iload B dX6_edgesOf_23 4 rfl ?_
  refine g_iald B hK 6 0 rfl rfl 0 rfl (by omega) (by omega) (v := (1 : Int32)) rfl dX6_edgesOf_25 ?_
  refine g_ishl (v := (2 : Int32)) B dX6_edgesOf_26 (by decide) ?_
  refine g_ior (v := (2 : Int32)) B dX6_edgesOf_27 (by decide) ?_
  refine g_istore_n (lv' := [(0, .ref hm), (1, .int (nI t)), (2, .ref q_1), (3, .int (2 : Int32)), (4, .int (0 : Int32))]) B dX6_edgesOf_28 rfl (by decide) [1, 2, 3, 0, 4] rfl ?_
  refine g_iinc (lv' := [(0, .ref hm), (1, .int (nI t)), (2, .ref q_1), (3, .int (2 : Int32)), (4, .int (1 : Int32))]) B dX6_edgesOf_29 4 rfl (by decide) (by decide) [1, 2, 3, 4, 0] rfl ?_
  refine g_goto (tgt := 11) B dX6_edgesOf_32 (by decide) ?_
  refine g_iload B dX6_edgesOf_11 4 rfl ?_
  refine g_iconst (v := (1 : Int32)) B dX6_edgesOf_13 (by decide) ?_
  refine g_iadd (v := (2 : Int32)) B dX6_edgesOf_14 (by decide) ?_
  refine g_aload_n B dX6_edgesOf_15 2 rfl ?_
  refine g_alen (v := (2 : Int32)) B hK 6 0 rfl rfl rfl dX6_edgesOf_16 ?_
  refine g_icmp_ge (tgt := 35) B dX6_edgesOf_17 (by decide) (fun _ => ?_) (fun c3 => absurd (by decide) c3)
  refine g_iload_n B dX6_edgesOf_35 3 rfl ?_
  refine g_widen (k := 2) (n := 33) (by (try dsimp only); omega) (by (try dsimp only); omega) ?_
  exact g_iret_w B hr rfl hlocks () (rfl) (trivial) [0, 1, 2, 3, 4, 5] (by decide) rfl dX6_edgesOf_36

set_option maxHeartbeats 4000000 in
set_option maxRecDepth 100000 in
theorem r_count_0 (l : Launch) {D : va_G} {cI cL cZ : ClassId}   : PM l yX6_count wsX6_count ({ frames := 0, cells := 0, slots := 0, locals := 0 } : Room) D (gTys cI cL cZ) [.int (0 : Int32)] [] (fun (_ : Unit) => True) (fun (_ : Unit) => some (.int (0 : Int32))) := by
  refine PM.ofG cX6_count 3 (some .int) (by decide +kernel) rfl (Nat.le_of_ble_eq_true rfl) ?_
  intro p e s m below meth c B hr hlocks hname hK hN
  refine g_iconst (v := (0 : Int32)) B dX6_count_0 (by decide) ?_
  refine g_istore_n (lv' := [(0, .int (0 : Int32)), (1, .int (0 : Int32))]) B dX6_count_1 rfl (by decide) [1, 0] rfl ?_
  refine g_iload_n B dX6_count_2 0 rfl ?_
  refine g_istore_n (lv' := [(0, .int (0 : Int32)), (1, .int (0 : Int32)), (2, .int (0 : Int32))]) B dX6_count_3 rfl (by decide) [1, 2, 0] rfl ?_
  refine g_iload_n B dX6_count_4 2 rfl ?_
  refine g_if_le (tgt := 21) B dX6_count_5 (by decide) (fun _ => ?_) (fun c1 => absurd (by decide) c1)
  refine g_iload_n B dX6_count_21 1 rfl ?_
  exact g_iret_p B hr rfl hlocks () (rfl) (trivial) dX6_count_22

set_option maxHeartbeats 4000000 in
set_option maxRecDepth 100000 in
theorem r_count_1 (l : Launch) {D : va_G} {cI cL cZ : ClassId}   : PM l yX6_count wsX6_count ({ frames := 0, cells := 0, slots := 0, locals := 0 } : Room) D (gTys cI cL cZ) [.int (1 : Int32)] [] (fun (_ : Unit) => True) (fun (_ : Unit) => some (.int (1 : Int32))) := by
  refine PM.ofG cX6_count 3 (some .int) (by decide +kernel) rfl (Nat.le_of_ble_eq_true rfl) ?_
  intro p e s m below meth c B hr hlocks hname hK hN
  refine g_iconst (v := (0 : Int32)) B dX6_count_0 (by decide) ?_
  refine g_istore_n (lv' := [(0, .int (1 : Int32)), (1, .int (0 : Int32))]) B dX6_count_1 rfl (by decide) [1, 0] rfl ?_
  refine g_iload_n B dX6_count_2 0 rfl ?_
  refine g_istore_n (lv' := [(0, .int (1 : Int32)), (1, .int (0 : Int32)), (2, .int (1 : Int32))]) B dX6_count_3 rfl (by decide) [1, 2, 0] rfl ?_
  refine g_iload_n B dX6_count_4 2 rfl ?_
  refine g_if_le (tgt := 21) B dX6_count_5 (by decide) (fun c1 => absurd c1 (by decide)) (fun _ => ?_)
  refine g_iload_n B dX6_count_8 1 rfl ?_
  refine g_iload_n B dX6_count_9 2 rfl ?_
  refine g_iconst (v := (2 : Int32)) B dX6_count_10 (by decide) ?_
  refine g_irem (v := (1 : Int32)) B dX6_count_11 (by decide) (by decide) ?_
  refine g_iadd (v := (1 : Int32)) B dX6_count_12 (by decide) ?_
  refine g_istore_n (lv' := [(0, .int (1 : Int32)), (1, .int (1 : Int32)), (2, .int (1 : Int32))]) B dX6_count_13 rfl (by decide) [1, 0, 2] rfl ?_
  refine g_iload_n B dX6_count_14 2 rfl ?_
  refine g_iconst (v := (2 : Int32)) B dX6_count_15 (by decide) ?_
  refine g_idiv (v := (0 : Int32)) B dX6_count_16 (by decide) (by decide) ?_
  refine g_istore_n (lv' := [(0, .int (1 : Int32)), (1, .int (1 : Int32)), (2, .int (0 : Int32))]) B dX6_count_17 rfl (by decide) [1, 2, 0] rfl ?_
  refine g_goto (tgt := 4) B dX6_count_18 (by decide) ?_
  refine g_iload_n B dX6_count_4 2 rfl ?_
  refine g_if_le (tgt := 21) B dX6_count_5 (by decide) (fun _ => ?_) (fun c2 => absurd (by decide) c2)
  refine g_iload_n B dX6_count_21 1 rfl ?_
  exact g_iret_p B hr rfl hlocks () (rfl) (trivial) dX6_count_22

set_option maxHeartbeats 4000000 in
set_option maxRecDepth 100000 in
theorem r_count_2 (l : Launch) {D : va_G} {cI cL cZ : ClassId}   : PM l yX6_count wsX6_count ({ frames := 0, cells := 0, slots := 0, locals := 0 } : Room) D (gTys cI cL cZ) [.int (2 : Int32)] [] (fun (_ : Unit) => True) (fun (_ : Unit) => some (.int (1 : Int32))) := by
  refine PM.ofG cX6_count 3 (some .int) (by decide +kernel) rfl (Nat.le_of_ble_eq_true rfl) ?_
  intro p e s m below meth c B hr hlocks hname hK hN
  refine g_iconst (v := (0 : Int32)) B dX6_count_0 (by decide) ?_
  refine g_istore_n (lv' := [(0, .int (2 : Int32)), (1, .int (0 : Int32))]) B dX6_count_1 rfl (by decide) [1, 0] rfl ?_
  refine g_iload_n B dX6_count_2 0 rfl ?_
  refine g_istore_n (lv' := [(0, .int (2 : Int32)), (1, .int (0 : Int32)), (2, .int (2 : Int32))]) B dX6_count_3 rfl (by decide) [1, 2, 0] rfl ?_
  refine g_iload_n B dX6_count_4 2 rfl ?_
  refine g_if_le (tgt := 21) B dX6_count_5 (by decide) (fun c1 => absurd c1 (by decide)) (fun _ => ?_)
  refine g_iload_n B dX6_count_8 1 rfl ?_
  refine g_iload_n B dX6_count_9 2 rfl ?_
  refine g_iconst (v := (2 : Int32)) B dX6_count_10 (by decide) ?_
  refine g_irem (v := (0 : Int32)) B dX6_count_11 (by decide) (by decide) ?_
  refine g_iadd (v := (0 : Int32)) B dX6_count_12 (by decide) ?_
  refine g_istore_n (lv' := [(0, .int (2 : Int32)), (1, .int (0 : Int32)), (2, .int (2 : Int32))]) B dX6_count_13 rfl (by decide) [1, 0, 2] rfl ?_
  refine g_iload_n B dX6_count_14 2 rfl ?_
  refine g_iconst (v := (2 : Int32)) B dX6_count_15 (by decide) ?_
  refine g_idiv (v := (1 : Int32)) B dX6_count_16 (by decide) (by decide) ?_
  refine g_istore_n (lv' := [(0, .int (2 : Int32)), (1, .int (0 : Int32)), (2, .int (1 : Int32))]) B dX6_count_17 rfl (by decide) [1, 2, 0] rfl ?_
  refine g_goto (tgt := 4) B dX6_count_18 (by decide) ?_
  refine g_iload_n B dX6_count_4 2 rfl ?_
  refine g_if_le (tgt := 21) B dX6_count_5 (by decide) (fun c2 => absurd c2 (by decide)) (fun _ => ?_)
  refine g_iload_n B dX6_count_8 1 rfl ?_
  refine g_iload_n B dX6_count_9 2 rfl ?_
  refine g_iconst (v := (2 : Int32)) B dX6_count_10 (by decide) ?_
  refine g_irem (v := (1 : Int32)) B dX6_count_11 (by decide) (by decide) ?_
  refine g_iadd (v := (1 : Int32)) B dX6_count_12 (by decide) ?_
  refine g_istore_n (lv' := [(0, .int (2 : Int32)), (1, .int (1 : Int32)), (2, .int (1 : Int32))]) B dX6_count_13 rfl (by decide) [1, 0, 2] rfl ?_
  refine g_iload_n B dX6_count_14 2 rfl ?_
  refine g_iconst (v := (2 : Int32)) B dX6_count_15 (by decide) ?_
  refine g_idiv (v := (0 : Int32)) B dX6_count_16 (by decide) (by decide) ?_
  refine g_istore_n (lv' := [(0, .int (2 : Int32)), (1, .int (1 : Int32)), (2, .int (0 : Int32))]) B dX6_count_17 rfl (by decide) [1, 2, 0] rfl ?_
  refine g_goto (tgt := 4) B dX6_count_18 (by decide) ?_
  refine g_iload_n B dX6_count_4 2 rfl ?_
  refine g_if_le (tgt := 21) B dX6_count_5 (by decide) (fun _ => ?_) (fun c3 => absurd (by decide) c3)
  refine g_iload_n B dX6_count_21 1 rfl ?_
  exact g_iret_p B hr rfl hlocks () (rfl) (trivial) dX6_count_22

set_option maxHeartbeats 4000000 in
set_option maxRecDepth 100000 in
theorem r_keptEdges_0 (l : Launch) {D : va_G} {cI cL cZ : ClassId} (hm : Nat) (m1 : Nat) (m2 : Nat) (m3 : Nat) (m4 : Nat) (m5 : Nat) (m7 : Nat) (m9 : Nat) (m10 : Nat) (m11 : Nat) (m12 : Nat) (m13 : Nat) (m15 : Nat) (m16 : Nat) (m17 : Nat) (th : Int32) (dr : Int32) (rl : Int32) (bu : Int32)  : PM l yX6_keptEdges wsX6_keptEdges ({ frames := 0, cells := 0, slots := 0, locals := 0 } : Room) D (gTys cI cL cZ) [.ref hm, .int bu] [(hm, .inr (6, [.int th, .ref m1, .ref m2, .ref m3, .ref m4, .ref m5, .int dr, .ref m7, .int (0 : Int32), .ref m9, .ref m10, .ref m11, .ref m12, .ref m13, .int rl, .ref m15, .ref m16, .ref m17]))] (fun (_ : Unit) => True) (fun (_ : Unit) => some (.int (0 : Int32))) := by
  refine PM.ofG cX6_keptEdges 4 (some .int) (by decide +kernel) rfl (Nat.le_of_ble_eq_true rfl) ?_
  intro p e s m below meth c B hr hlocks hname hK hN
  refine g_iconst (v := (0 : Int32)) B dX6_keptEdges_0 (by decide) ?_
  refine g_istore_n (lv' := [(0, .ref hm), (1, .int bu), (2, .int (0 : Int32))]) B dX6_keptEdges_1 rfl (by decide) [1, 2, 0] rfl ?_
  refine g_iconst (v := (0 : Int32)) B dX6_keptEdges_2 (by decide) ?_
  refine g_istore_n (lv' := [(0, .ref hm), (1, .int bu), (2, .int (0 : Int32)), (3, .int (0 : Int32))]) B dX6_keptEdges_3 rfl (by decide) [1, 2, 3, 0] rfl ?_
  refine g_iload_n B dX6_keptEdges_4 3 rfl ?_
  refine g_aload_n B dX6_keptEdges_5 0 rfl ?_
  refine g_get (C := RX6) (T := TX6) (N := 18) (ci := 6) B hK hin_X6_keptEdges_RX6 0 rfl rfl 8 (by decide) (List.mem_of_getElem? (i := 1) rfl) rfl (v := .int (0 : Int32)) rfl dX6_keptEdges_6 ?_
  refine g_icmp_ge (tgt := 45) B dX6_keptEdges_9 (by decide) (fun _ => ?_) (fun c1 => absurd (by decide) c1)
  refine g_iload_n B dX6_keptEdges_45 2 rfl ?_
  exact g_iret_p B hr rfl hlocks () (rfl) (trivial) dX6_keptEdges_46

set_option maxHeartbeats 4000000 in
set_option maxRecDepth 100000 in
theorem r_hasResult_0 (l : Launch) {D : va_G} {cI cL cZ : ClassId} (hm : Nat) (m1 : Nat) (m2 : Nat) (m3 : Nat) (m4 : Nat) (m5 : Nat) (m7 : Nat) (m9 : Nat) (m10 : Nat) (m11 : Nat) (m12 : Nat) (m13 : Nat) (m15 : Nat) (m16 : Nat) (m17 : Nat) (th : Int32) (dr : Int32) (rl : Int32) (en : Int32) (bu : Int32)  : PM l yX6_hasResult wsX6_hasResult ({ frames := 0, cells := 0, slots := 0, locals := 0 } : Room) D (gTys cI cL cZ) [.ref hm, .int en, .int bu] [(hm, .inr (6, [.int th, .ref m1, .ref m2, .ref m3, .ref m4, .ref m5, .int dr, .ref m7, .int (0 : Int32), .ref m9, .ref m10, .ref m11, .ref m12, .ref m13, .int rl, .ref m15, .ref m16, .ref m17]))] (fun (_ : Unit) => True) (fun (_ : Unit) => some (.int (0 : Int32))) := by
  refine PM.ofG cX6_hasResult 4 (some .boolean) (by decide +kernel) rfl (Nat.le_of_ble_eq_true rfl) ?_
  intro p e s m below meth c B hr hlocks hname hK hN
  refine g_iconst (v := (0 : Int32)) B dX6_hasResult_0 (by decide) ?_
  refine g_istore_n (lv' := [(0, .ref hm), (1, .int en), (2, .int bu), (3, .int (0 : Int32))]) B dX6_hasResult_1 rfl (by decide) [1, 2, 3, 0] rfl ?_
  refine g_iload_n B dX6_hasResult_2 3 rfl ?_
  refine g_aload_n B dX6_hasResult_3 0 rfl ?_
  refine g_get (C := RX6) (T := TX6) (N := 18) (ci := 6) B hK hin_X6_hasResult_RX6 0 rfl rfl 8 (by decide) (List.mem_of_getElem? (i := 1) rfl) rfl (v := .int (0 : Int32)) rfl dX6_hasResult_4 ?_
  refine g_icmp_ge (tgt := 42) B dX6_hasResult_7 (by decide) (fun _ => ?_) (fun c1 => absurd (by decide) c1)
  refine g_iconst (v := (0 : Int32)) B dX6_hasResult_42 (by decide) ?_
  exact g_iret_p B hr rfl hlocks () (rfl) (trivial) dX6_hasResult_43

set_option maxHeartbeats 4000000 in
set_option maxRecDepth 100000 in
theorem r_isNeeded_0 (l : Launch) {D : va_G} {cI cL cZ : ClassId} (hm : Nat) (m1 : Nat) (m2 : Nat) (m3 : Nat) (m4 : Nat) (m5 : Nat) (m7 : Nat) (m9 : Nat) (m10 : Nat) (m11 : Nat) (m12 : Nat) (m13 : Nat) (m15 : Nat) (m16 : Nat) (m17 : Nat) (th : Int32) (dr : Int32) (rl : Int32)  : PM l yX6_isNeeded wsX6_isNeeded ({ frames := 1, cells := 0, slots := 0, locals := 23 } : Room) D (gTys cI cL cZ) [.ref hm, .int (2 : Int32), .int (1 : Int32), .int (-1 : Int32)] [(hm, .inr (6, [.int th, .ref m1, .ref m2, .ref m3, .ref m4, .ref m5, .int dr, .ref m7, .int (0 : Int32), .ref m9, .ref m10, .ref m11, .ref m12, .ref m13, .int rl, .ref m15, .ref m16, .ref m17]))] (fun (_ : Unit) => True) (fun (_ : Unit) => some (.int (1 : Int32))) := by
  refine PM.ofG cX6_isNeeded 4 (some .boolean) (by decide +kernel) rfl (Nat.le_of_ble_eq_true rfl) ?_
  intro p e s m below meth c B hr hlocks hname hK hN
  refine g_iload_n B dX6_isNeeded_0 1 rfl ?_
  refine g_aload_n B dX6_isNeeded_1 0 rfl ?_
  refine g_iload_n B dX6_isNeeded_2 3 rfl ?_
  refine g_callP (g_runV (q0 := 0) (ci := 6) B hK rfl rfl (PM.met (r_keptEdges_0 l (D := D) (cI := cI) (cL := cL) (cZ := cZ) hm m1 m2 m3 m4 m5 m7 m9 m10 m11 m12 m13 m15 m16 m17 th dr rl (-1 : Int32) )) (gPp.pre (av := [.ref hm, .int (-1 : Int32)]) (wc := [(hm, .inr (6, [.int th, .ref m1, .ref m2, .ref m3, .ref m4, .ref m5, .int dr, .ref m7, .int (0 : Int32), .ref m9, .ref m10, .ref m11, .ref m12, .ref m13, .int rl, .ref m15, .ref m16, .ref m17]))]) hK hN [0] rfl (by decide)) gX6_isNeeded_X6_keptEdges rfl rfl kd_X6_keptEdges ⟨by decide, by decide⟩ (st := [.int (2 : Int32)]) rfl (Nat.le_of_ble_eq_true rfl) dX6_isNeeded_3 ⟨by decide, by decide⟩) (fun u hu => ?_)
  refine g_iconst (v := (-1 : Int32)) B dX6_isNeeded_6 (by decide) ?_
  refine g_ixor (v := (-1 : Int32)) B dX6_isNeeded_7 (by decide) ?_
  refine g_iand (v := (2 : Int32)) B dX6_isNeeded_8 (by decide) ?_
  refine g_if_ne (tgt := 27) B dX6_isNeeded_9 (by decide) (fun _ => ?_) (fun c2 => absurd c2 (by decide))
  refine g_iconst (v := (1 : Int32)) B dX6_isNeeded_27 (by decide) ?_
  refine g_goto (tgt := 32) B dX6_isNeeded_28 (by decide) ?_
  exact g_iret_p B hr rfl hlocks () (rfl) (trivial) dX6_isNeeded_32

set_option maxHeartbeats 4000000 in
set_option maxRecDepth 100000 in
theorem r_kept_0 (l : Launch) {D : va_G} {cI cL cZ : ClassId} (hm : Nat) (m1 : Nat) (m2 : Nat) (m3 : Nat) (m4 : Nat) (m5 : Nat) (m7 : Nat) (m9 : Nat) (m10 : Nat) (m11 : Nat) (m12 : Nat) (m13 : Nat) (m15 : Nat) (m16 : Nat) (m17 : Nat) (th : Int32) (dr : Int32) (rl : Int32)  : PM l yX6_kept wsX6_kept ({ frames := 0, cells := 0, slots := 0, locals := 0 } : Room) D (gTys cI cL cZ) [.ref hm] [(hm, .inr (6, [.int th, .ref m1, .ref m2, .ref m3, .ref m4, .ref m5, .int dr, .ref m7, .int (0 : Int32), .ref m9, .ref m10, .ref m11, .ref m12, .ref m13, .int rl, .ref m15, .ref m16, .ref m17]))] (fun (_ : Unit) => True) (fun (_ : Unit) => some (.int (0 : Int32))) := by
  refine PM.ofG cX6_kept 3 (some .int) (by decide +kernel) rfl (Nat.le_of_ble_eq_true rfl) ?_
  intro p e s m below meth c B hr hlocks hname hK hN
  refine g_iconst (v := (0 : Int32)) B dX6_kept_0 (by decide) ?_
  refine g_istore_n (lv' := [(0, .ref hm), (1, .int (0 : Int32))]) B dX6_kept_1 rfl (by decide) [1, 0] rfl ?_
  refine g_iconst (v := (0 : Int32)) B dX6_kept_2 (by decide) ?_
  refine g_istore_n (lv' := [(0, .ref hm), (1, .int (0 : Int32)), (2, .int (0 : Int32))]) B dX6_kept_3 rfl (by decide) [1, 2, 0] rfl ?_
  refine g_iload_n B dX6_kept_4 2 rfl ?_
  refine g_aload_n B dX6_kept_5 0 rfl ?_
  refine g_get (C := RX6) (T := TX6) (N := 18) (ci := 6) B hK hin_X6_kept_RX6 0 rfl rfl 8 (by decide) (List.mem_of_getElem? (i := 1) rfl) rfl (v := .int (0 : Int32)) rfl dX6_kept_6 ?_
  refine g_icmp_ge (tgt := 35) B dX6_kept_9 (by decide) (fun _ => ?_) (fun c1 => absurd (by decide) c1)
  refine g_iload_n B dX6_kept_35 1 rfl ?_
  exact g_iret_p B hr rfl hlocks () (rfl) (trivial) dX6_kept_36

set_option maxHeartbeats 4000000 in
set_option maxRecDepth 100000 in
theorem r_drop_0 (l : Launch) {D : va_G} {cI cL cZ : ClassId} (hm : Nat) (m1 : Nat) (m2 : Nat) (m3 : Nat) (m4 : Nat) (m5 : Nat) (m7 : Nat) (m9 : Nat) (m10 : Nat) (m11 : Nat) (m12 : Nat) (m13 : Nat) (m15 : Nat) (m16 : Nat) (m17 : Nat) (th : Int32) (dr : Int32) (rl : Int32)  : PM l yX6_drop wsX6_drop ({ frames := 0, cells := 0, slots := 0, locals := 0 } : Room) D (gTys cI cL cZ) [.ref hm] [(hm, .inr (6, [.int th, .ref m1, .ref m2, .ref m3, .ref m4, .ref m5, .int dr, .ref m7, .int (0 : Int32), .ref m9, .ref m10, .ref m11, .ref m12, .ref m13, .int rl, .ref m15, .ref m16, .ref m17]))] (fun (_ : Unit) => True) (fun (_ : Unit) => none) := by
  refine PM.ofG cX6_drop 2 none (by decide +kernel) rfl (Nat.le_of_ble_eq_true rfl) ?_
  intro p e s m below meth c B hr hlocks hname hK hN
  refine g_iconst (v := (0 : Int32)) B dX6_drop_0 (by decide) ?_
  refine g_istore_n (lv' := [(0, .ref hm), (1, .int (0 : Int32))]) B dX6_drop_1 rfl (by decide) [1, 0] rfl ?_
  refine g_iload_n B dX6_drop_2 1 rfl ?_
  refine g_aload_n B dX6_drop_3 0 rfl ?_
  refine g_get (C := RX6) (T := TX6) (N := 18) (ci := 6) B hK hin_X6_drop_RX6 0 rfl rfl 8 (by decide) (List.mem_of_getElem? (i := 1) rfl) rfl (v := .int (0 : Int32)) rfl dX6_drop_4 ?_
  refine g_icmp_ge (tgt := 42) B dX6_drop_7 (by decide) (fun _ => ?_) (fun c1 => absurd (by decide) c1)
  exact g_vret_p B hr hlocks () (rfl) (trivial) dX6_drop_42

set_option maxHeartbeats 4000000 in
set_option maxRecDepth 100000 in
theorem r_changed_0 (l : Launch) {D : va_G} {cI cL cZ : ClassId} (hm : Nat) (m1 : Nat) (m2 : Nat) (m3 : Nat) (m4 : Nat) (m5 : Nat) (m7 : Nat) (m9 : Nat) (m10 : Nat) (m11 : Nat) (m12 : Nat) (m13 : Nat) (m15 : Nat) (m16 : Nat) (m17 : Nat) (th : Int32) (dr : Int32) (rl : Int32)  : PM l yX6_changed wsX6_changed ({ frames := 1, cells := 0, slots := 0, locals := 22 } : Room) D (gTys cI cL cZ) [.ref hm] [(hm, .inr (6, [.int th, .ref m1, .ref m2, .ref m3, .ref m4, .ref m5, .int dr, .ref m7, .int (0 : Int32), .ref m9, .ref m10, .ref m11, .ref m12, .ref m13, .int rl, .ref m15, .ref m16, .ref m17]))] (fun (_ : Unit) => True) (fun (_ : Unit) => some (.int (0 : Int32))) := by
  refine PM.ofG cX6_changed 2 (some .int) (by decide +kernel) rfl (Nat.le_of_ble_eq_true rfl) ?_
  intro p e s m below meth c B hr hlocks hname hK hN
  refine g_iconst (v := (0 : Int32)) B dX6_changed_0 (by decide) ?_
  refine g_istore_n (lv' := [(0, .ref hm), (1, .int (0 : Int32))]) B dX6_changed_1 rfl (by decide) [1, 0] rfl ?_
  refine g_iload_n B dX6_changed_2 1 rfl ?_
  refine g_aload_n B dX6_changed_3 0 rfl ?_
  refine g_get (C := RX6) (T := TX6) (N := 18) (ci := 6) B hK hin_X6_changed_RX6 0 rfl rfl 8 (by decide) (List.mem_of_getElem? (i := 1) rfl) rfl (v := .int (0 : Int32)) rfl dX6_changed_4 ?_
  refine g_icmp_ge (tgt := 48) B dX6_changed_7 (by decide) (fun _ => ?_) (fun c1 => absurd (by decide) c1)
  refine g_iconst (v := (0 : Int32)) B dX6_changed_48 (by decide) ?_
  refine g_istore_n (lv' := [(0, .ref hm), (1, .int (0 : Int32))]) B dX6_changed_49 rfl (by decide) [1, 0] rfl ?_
  refine g_iload_n B dX6_changed_50 1 rfl ?_
  refine g_aload_n B dX6_changed_51 0 rfl ?_
  refine g_get (C := RX6) (T := TX6) (N := 18) (ci := 6) B hK hin_X6_changed_RX6 0 rfl rfl 8 (by decide) (List.mem_of_getElem? (i := 1) rfl) rfl (v := .int (0 : Int32)) rfl dX6_changed_52 ?_
  refine g_icmp_ge (tgt := 90) B dX6_changed_55 (by decide) (fun _ => ?_) (fun c2 => absurd (by decide) c2)
  refine g_aload_n B dX6_changed_90 0 rfl ?_
  refine g_callP (g_runV (q0 := 0) (ci := 6) B hK rfl rfl (PM.met (r_drop_0 l (D := D) (cI := cI) (cL := cL) (cZ := cZ) hm m1 m2 m3 m4 m5 m7 m9 m10 m11 m12 m13 m15 m16 m17 th dr rl )) (gPp.pre (av := [.ref hm]) (wc := [(hm, .inr (6, [.int th, .ref m1, .ref m2, .ref m3, .ref m4, .ref m5, .int dr, .ref m7, .int (0 : Int32), .ref m9, .ref m10, .ref m11, .ref m12, .ref m13, .int rl, .ref m15, .ref m16, .ref m17]))]) hK hN [0] rfl (by decide)) gX6_changed_X6_drop rfl rfl kd_X6_drop ⟨by decide, by decide⟩ (st := []) rfl (Nat.le_of_ble_eq_true rfl) dX6_changed_91 ⟨by decide, by decide⟩) (fun u hu => ?_)
  refine g_aload_n B dX6_changed_94 0 rfl ?_
  refine g_callP (g_runV (q0 := 0) (ci := 6) B hK rfl rfl (PM.met (r_kept_0 l (D := D) (cI := cI) (cL := cL) (cZ := cZ) hm m1 m2 m3 m4 m5 m7 m9 m10 m11 m12 m13 m15 m16 m17 th dr rl )) (gPp.pre (av := [.ref hm]) (wc := [(hm, .inr (6, [.int th, .ref m1, .ref m2, .ref m3, .ref m4, .ref m5, .int dr, .ref m7, .int (0 : Int32), .ref m9, .ref m10, .ref m11, .ref m12, .ref m13, .int rl, .ref m15, .ref m16, .ref m17]))]) hK hN [0] rfl (by decide)) gX6_changed_X6_kept rfl rfl kd_X6_kept ⟨by decide, by decide⟩ (st := []) rfl (Nat.le_of_ble_eq_true rfl) dX6_changed_95 ⟨by decide, by decide⟩) (fun u hu => ?_)
  exact g_iret_p B hr rfl hlocks () (rfl) (trivial) dX6_changed_98

set_option maxHeartbeats 4000000 in
set_option maxRecDepth 100000 in
theorem r_placeOf_0 (l : Launch) {D : va_G} {cI cL cZ : ClassId} (hm : Nat) (m1 : Nat) (m2 : Nat) (m3 : Nat) (m4 : Nat) (m5 : Nat) (m7 : Nat) (m9 : Nat) (m10 : Nat) (m11 : Nat) (m12 : Nat) (m13 : Nat) (m15 : Nat) (m16 : Nat) (m17 : Nat) (th : Int32) (dr : Int32) (rl : Int32) (te : Int32)  : PM l yX6_placeOf wsX6_placeOf ({ frames := 0, cells := 0, slots := 0, locals := 0 } : Room) D (gTys cI cL cZ) [.ref hm, .int te] [(hm, .inr (6, [.int th, .ref m1, .ref m2, .ref m3, .ref m4, .ref m5, .int dr, .ref m7, .int (0 : Int32), .ref m9, .ref m10, .ref m11, .ref m12, .ref m13, .int rl, .ref m15, .ref m16, .ref m17]))] (fun (_ : Unit) => True) (fun (_ : Unit) => some (.int (-1 : Int32))) := by
  refine PM.ofG cX6_placeOf 3 (some .int) (by decide +kernel) rfl (Nat.le_of_ble_eq_true rfl) ?_
  intro p e s m below meth c B hr hlocks hname hK hN
  refine g_iconst (v := (0 : Int32)) B dX6_placeOf_0 (by decide) ?_
  refine g_istore_n (lv' := [(0, .ref hm), (1, .int te), (2, .int (0 : Int32))]) B dX6_placeOf_1 rfl (by decide) [1, 2, 0] rfl ?_
  refine g_iload_n B dX6_placeOf_2 2 rfl ?_
  refine g_aload_n B dX6_placeOf_3 0 rfl ?_
  refine g_get (C := RX6) (T := TX6) (N := 18) (ci := 6) B hK hin_X6_placeOf_RX6 0 rfl rfl 8 (by decide) (List.mem_of_getElem? (i := 1) rfl) rfl (v := .int (0 : Int32)) rfl dX6_placeOf_4 ?_
  refine g_icmp_ge (tgt := 28) B dX6_placeOf_7 (by decide) (fun _ => ?_) (fun c1 => absurd (by decide) c1)
  refine g_iconst (v := (-1 : Int32)) B dX6_placeOf_28 (by decide) ?_
  exact g_iret_p B hr rfl hlocks () (rfl) (trivial) dX6_placeOf_29

set_option maxHeartbeats 4000000 in
set_option maxRecDepth 100000 in
theorem r_knownEdges_0 (l : Launch) {D : va_G} {cI cL cZ : ClassId} (hm : Nat) (m1 : Nat) (m2 : Nat) (m3 : Nat) (m4 : Nat) (m5 : Nat) (m7 : Nat) (m9 : Nat) (m10 : Nat) (m11 : Nat) (m12 : Nat) (m13 : Nat) (m15 : Nat) (m16 : Nat) (m17 : Nat) (th : Int32) (dr : Int32) (rl : Int32)  : PM l yX6_knownEdges wsX6_knownEdges ({ frames := 0, cells := 0, slots := 0, locals := 0 } : Room) D (gTys cI cL cZ) [.ref hm] [(hm, .inr (6, [.int th, .ref m1, .ref m2, .ref m3, .ref m4, .ref m5, .int dr, .ref m7, .int (0 : Int32), .ref m9, .ref m10, .ref m11, .ref m12, .ref m13, .int rl, .ref m15, .ref m16, .ref m17]))] (fun (_ : Unit) => True) (fun (_ : Unit) => some (.int (0 : Int32))) := by
  refine PM.ofG cX6_knownEdges 3 (some .int) (by decide +kernel) rfl (Nat.le_of_ble_eq_true rfl) ?_
  intro p e s m below meth c B hr hlocks hname hK hN
  refine g_iconst (v := (0 : Int32)) B dX6_knownEdges_0 (by decide) ?_
  refine g_istore_n (lv' := [(0, .ref hm), (1, .int (0 : Int32))]) B dX6_knownEdges_1 rfl (by decide) [1, 0] rfl ?_
  refine g_iconst (v := (0 : Int32)) B dX6_knownEdges_2 (by decide) ?_
  refine g_istore_n (lv' := [(0, .ref hm), (1, .int (0 : Int32)), (2, .int (0 : Int32))]) B dX6_knownEdges_3 rfl (by decide) [1, 2, 0] rfl ?_
  refine g_iload_n B dX6_knownEdges_4 2 rfl ?_
  refine g_aload_n B dX6_knownEdges_5 0 rfl ?_
  refine g_get (C := RX6) (T := TX6) (N := 18) (ci := 6) B hK hin_X6_knownEdges_RX6 0 rfl rfl 8 (by decide) (List.mem_of_getElem? (i := 1) rfl) rfl (v := .int (0 : Int32)) rfl dX6_knownEdges_6 ?_
  refine g_icmp_ge (tgt := 27) B dX6_knownEdges_9 (by decide) (fun _ => ?_) (fun c1 => absurd (by decide) c1)
  refine g_iload_n B dX6_knownEdges_27 1 rfl ?_
  exact g_iret_p B hr rfl hlocks () (rfl) (trivial) dX6_knownEdges_28

