/-! the class on a fresh object: tests of arguments -/
theorem hin_X5_checkRelation_RX3 : ∀ z ∈ u_ws RX3 TX3 4, z ∈ wsX5_checkRelation := by decide +kernel
theorem hin_X5_checkRelation_RX5 : ∀ z ∈ u_ws RX5 TX5 5, z ∈ wsX5_checkRelation := by decide +kernel
theorem hin_X5_checkRoom_RX0 : ∀ z ∈ u_ws RX0 TX0 6, z ∈ wsX5_checkRoom := by decide +kernel
theorem hin_X5_checkRoom_RX5 : ∀ z ∈ u_ws RX5 TX5 5, z ∈ wsX5_checkRoom := by decide +kernel
theorem hat_X5_checkCase_121 : ∀ z ∈ (vx_atS RX5 121 "java/lang/IllegalArgumentException" ["java/lang/RuntimeException", "java/lang/Exception"]).filter goodWord, z ∈ wsX5_checkCase := by decide +kernel
theorem hat2_RX5_121 : ∀ z ∈ (vx_atS RX5 121 "java/lang/IllegalArgumentException" ["java/lang/RuntimeException", "java/lang/Exception"]).filter (fun z => !goodWord z), z ∈ Cond.castable "java/lang/IllegalArgumentException" "java/lang/IllegalArgumentException" :: XDL.map Cond.declares := by decide +kernel
theorem hat_X5_checkEdge_93 : ∀ z ∈ (vx_atS RX5 93 "java/lang/IndexOutOfBoundsException" ["java/lang/RuntimeException", "java/lang/Exception"]).filter goodWord, z ∈ wsX5_checkEdge := by decide +kernel
theorem hat2_RX5_93 : ∀ z ∈ (vx_atS RX5 93 "java/lang/IndexOutOfBoundsException" ["java/lang/RuntimeException", "java/lang/Exception"]).filter (fun z => !goodWord z), z ∈ Cond.castable "java/lang/IndexOutOfBoundsException" "java/lang/IndexOutOfBoundsException" :: XDL.map Cond.declares := by decide +kernel
theorem hat_X5_checkNode_93 : ∀ z ∈ (vx_atS RX5 93 "java/lang/IndexOutOfBoundsException" ["java/lang/RuntimeException", "java/lang/Exception"]).filter goodWord, z ∈ wsX5_checkNode := by decide +kernel
theorem hat_X5_checkQuestion_121 : ∀ z ∈ (vx_atS RX5 121 "java/lang/IllegalArgumentException" ["java/lang/RuntimeException", "java/lang/Exception"]).filter goodWord, z ∈ wsX5_checkQuestion := by decide +kernel
theorem hat_X5_checkRelation_93 : ∀ z ∈ (vx_atS RX5 93 "java/lang/IndexOutOfBoundsException" ["java/lang/RuntimeException", "java/lang/Exception"]).filter goodWord, z ∈ wsX5_checkRelation := by decide +kernel
theorem hat_X5_checkSlot_93 : ∀ z ∈ (vx_atS RX5 93 "java/lang/IndexOutOfBoundsException" ["java/lang/RuntimeException", "java/lang/Exception"]).filter goodWord, z ∈ wsX5_checkSlot := by decide +kernel
theorem hat_X5_checkTarget_93 : ∀ z ∈ (vx_atS RX5 93 "java/lang/IndexOutOfBoundsException" ["java/lang/RuntimeException", "java/lang/Exception"]).filter goodWord, z ∈ wsX5_checkTarget := by decide +kernel
theorem hat_X5_checkWeight_121 : ∀ z ∈ (vx_atS RX5 121 "java/lang/IllegalArgumentException" ["java/lang/RuntimeException", "java/lang/Exception"]).filter goodWord, z ∈ wsX5_checkWeight := by decide +kernel
theorem hgd_RX5_93_89 : ∀ z ∈ Cond.classLink RX5 89 "java/lang/IndexOutOfBoundsException" :: Cond.initialized "java/lang/IndexOutOfBoundsException" :: vx_atS RX5 93 "java/lang/IndexOutOfBoundsException" ["java/lang/RuntimeException", "java/lang/Exception"], vx_ot z = true := by decide +kernel
theorem hgd_RX5_121_117 : ∀ z ∈ Cond.classLink RX5 117 "java/lang/IllegalArgumentException" :: Cond.initialized "java/lang/IllegalArgumentException" :: vx_atS RX5 121 "java/lang/IllegalArgumentException" ["java/lang/RuntimeException", "java/lang/Exception"], vx_ot z = true := by decide +kernel
theorem i32k : (0 : Int32).toInt = 0 ∧ (1 : Int32).toInt = 1 ∧ (2 : Int32).toInt = 2 ∧ (3 : Int32).toInt = 3 ∧ (4 : Int32).toInt = 4 ∧ (6 : Int32).toInt = 6 ∧ (7 : Int32).toInt = 7 ∧ (9 : Int32).toInt = 9 ∧ (10 : Int32).toInt = 10 ∧ (11 : Int32).toInt = 11 ∧ (12 : Int32).toInt = 12 ∧ (23 : Int32).toInt = 23 ∧ (24 : Int32).toInt = 24 ∧ (30 : Int32).toInt = 30 ∧ (50 : Int32).toInt = 50 ∧ (9999 : Int32).toInt = 9999 ∧ (10000 : Int32).toInt = 10000 := by decide
theorem nI_nem {n : Nat} (h : n < 12) : ¬ nI n = -1 := coN (P := fun n => ¬ nI n = -1) 12 (by decide +kernel) h
set_option maxHeartbeats 4000000 in
set_option maxRecDepth 100000 in
theorem k_checkNode_n (l : Launch) {D : va_G} {cI cL cZ : ClassId} (v1 : Nat) (h1 : v1 < 12) : PM l yX5_checkNode wsX5_checkNode ({ frames := 1, cells := 0, slots := 0, locals := 20 } : Room) D (gTys cI cL cZ) [.int (nI v1)] [] (fun (_ : Unit) => True) (fun (_ : Unit) => none) := by
  refine PM.ofG cX5_checkNode 1 none (by decide +kernel) rfl (Nat.le_of_ble_eq_true rfl) ?_
  intro p e s m below meth c B hr hlocks hname hK hN
  refine g_iload_n B dX5_checkNode_0 0 rfl ?_
  refine g_callP (g_runS B (PM.met (c_X5_isNode_n l (D := D) (cI := cI) (cL := cL) (cZ := cZ) v1 (by omega))) (gPp.pre (av := [.int (nI v1)]) (wc := []) hK hN [] rfl (by decide)) gX5_checkNode_X5_isNode rfl kd_X5_isNode ⟨by decide, by decide⟩ (st := []) rfl (Nat.le_of_ble_eq_true rfl) dX5_checkNode_1 ⟨by decide, by decide⟩) (fun u hu => ?_)
  refine g_if_ne (tgt := 18) B dX5_checkNode_4 (by decide) (fun _ => ?_) (fun c2 => absurd c2 (by decide))
  exact g_vret_p B hr hlocks () (rfl) (trivial) dX5_checkNode_18

set_option maxHeartbeats 4000000 in
set_option maxRecDepth 100000 in
theorem k_checkNode_t (l : Launch) {D : va_G} {cI cL cZ : ClassId} (v1 : Int32) (h1 : inR v1 0 11 = true) : PM l yX5_checkNode wsX5_checkNode ({ frames := 1, cells := 0, slots := 0, locals := 20 } : Room) D (gTys cI cL cZ) [.int v1] [] (fun (_ : Unit) => True) (fun (_ : Unit) => none) := by
  refine PM.ofG cX5_checkNode 1 none (by decide +kernel) rfl (Nat.le_of_ble_eq_true rfl) ?_
  intro p e s m below meth c B hr hlocks hname hK hN
  refine g_iload_n B dX5_checkNode_0 0 rfl ?_
  refine g_callP (g_runS B (PM.met (k_isNode_t l (D := D) (cI := cI) (cL := cL) (cZ := cZ) v1 (by first | assumption | exact hy (by assumption) | exact hz (by assumption)))) (gPp.pre (av := [.int v1]) (wc := []) hK hN [] rfl (by decide)) gX5_checkNode_X5_isNode rfl kd_X5_isNode ⟨by decide, by decide⟩ (st := []) rfl (Nat.le_of_ble_eq_true rfl) dX5_checkNode_1 ⟨by decide, by decide⟩) (fun u hu => ?_)
  refine g_if_ne (tgt := 18) B dX5_checkNode_4 (by decide) (fun _ => ?_) (fun c2 => absurd c2 (by decide))
  exact g_vret_p B hr hlocks () (rfl) (trivial) dX5_checkNode_18

set_option maxHeartbeats 4000000 in
set_option maxRecDepth 100000 in
theorem k_checkNode_x (l : Launch) (hfl : l.stackTraces = false) {D : va_G} {cI cL cZ : ClassId} (v1 : Int32) (h1 : inR v1 0 11 = false) : XM l yX5_checkNode wsX5_checkNode ({ frames := 6, cells := 1, slots := 6, locals := 100 } : Room) D (gTys cI cL cZ) [.int v1] [] "java/lang/IndexOutOfBoundsException" := by
  refine XM.ofG cX5_checkNode 1 none (by decide +kernel) rfl (Nat.le_of_ble_eq_true rfl) ?_
  intro p e s m below meth c A hA hno hZ hXS B hlocks hK hN
  refine g_iload_n B dX5_checkNode_0 0 rfl ?_
  refine g_callP (g_runS B (PM.met (k_isNode_f l (D := D) (cI := cI) (cL := cL) (cZ := cZ) v1 (by first | assumption | exact hy (by assumption) | exact hz (by assumption)))) (gPp.pre (av := [.int v1]) (wc := []) hK hN [] rfl (by decide)) gX5_checkNode_X5_isNode rfl kd_X5_isNode ⟨by decide, by decide⟩ (st := []) rfl (Nat.le_of_ble_eq_true rfl) dX5_checkNode_1 ⟨by decide, by decide⟩) (fun u hu => ?_)
  refine g_if_ne (tgt := 18) B dX5_checkNode_4 (by decide) (fun c2 => absurd (by decide) c2) (fun _ => ?_)
  exact g_throwSW B hfl (fun x hx => (hno x hx).elim) hZ hXS hlocks 12 rfl 2 rfl (by decide +kernel) (by decide +kernel) (List.mem_of_getElem? (i := 1) rfl) (List.mem_of_getElem? (i := 2) rfl) hat_X5_checkNode_93 hat2_RX5_93 hgd_RX5_93_89 dX5_checkNode_7 dX5_checkNode_10 dX5_checkNode_11 dX5_checkNode_14 dX5_checkNode_17 (by decide) (Nat.le_of_ble_eq_true rfl) (by decide) (by decide) (by decide) (by decide)

set_option maxHeartbeats 4000000 in
set_option maxRecDepth 100000 in
theorem k_checkSlot_n (l : Launch) {D : va_G} {cI cL cZ : ClassId} (v1 : Nat) (h1 : v1 < 4) : PM l yX5_checkSlot wsX5_checkSlot ({ frames := 0, cells := 0, slots := 0, locals := 0 } : Room) D (gTys cI cL cZ) [.int (nI v1)] [] (fun (_ : Unit) => True) (fun (_ : Unit) => none) := by
  refine PM.ofG cX5_checkSlot 1 none (by decide +kernel) rfl (Nat.le_of_ble_eq_true rfl) ?_
  intro p e s m below meth c B hr hlocks hname hK hN
  refine g_iload_n B dX5_checkSlot_0 0 rfl ?_
  refine g_nif_lt (tgt := 9) B v1 rfl (by omega) dX5_checkSlot_1 (by decide) ?_
  refine g_iload_n B dX5_checkSlot_4 0 rfl ?_
  refine g_iconst (v := (4 : Int32)) B dX5_checkSlot_5 (by decide) ?_
  refine g_ncmp_lt (tgt := 20) B v1 4 rfl rfl (by omega) (by omega) dX5_checkSlot_6 (by decide) (fun c1 => ?_) (fun c1 => ?_)
  rotate_left; · exfalso; omega
  exact g_vret_p B hr hlocks () (rfl) (trivial) dX5_checkSlot_20

set_option maxHeartbeats 4000000 in
set_option maxRecDepth 100000 in
theorem k_checkSlot_t (l : Launch) {D : va_G} {cI cL cZ : ClassId} (v1 : Int32) (h1 : inR v1 0 3 = true) : PM l yX5_checkSlot wsX5_checkSlot ({ frames := 0, cells := 0, slots := 0, locals := 0 } : Room) D (gTys cI cL cZ) [.int v1] [] (fun (_ : Unit) => True) (fun (_ : Unit) => none) := by
  refine PM.ofG cX5_checkSlot 1 none (by decide +kernel) rfl (Nat.le_of_ble_eq_true rfl) ?_
  intro p e s m below meth c B hr hlocks hname hK hN
  refine g_iload_n B dX5_checkSlot_0 0 rfl ?_
  refine g_if_lt (tgt := 9) B dX5_checkSlot_1 (by decide) (fun c1 => ?_) (fun c1 => ?_)
  · exfalso; (simp only [inR, Bool.and_eq_true, Bool.and_eq_false_iff, decide_eq_true_eq, decide_eq_false_iff_not, Int32.not_le, Int32.not_lt, Int32.le_iff_toInt_le, Int32.lt_iff_toInt_lt, i32k] at *; omega)
  refine g_iload_n B dX5_checkSlot_4 0 rfl ?_
  refine g_iconst (v := (4 : Int32)) B dX5_checkSlot_5 (by decide) ?_
  refine g_icmp_lt (tgt := 20) B dX5_checkSlot_6 (by decide) (fun c2 => ?_) (fun c2 => ?_)
  rotate_left; · exfalso; (simp only [inR, Bool.and_eq_true, Bool.and_eq_false_iff, decide_eq_true_eq, decide_eq_false_iff_not, Int32.not_le, Int32.not_lt, Int32.le_iff_toInt_le, Int32.lt_iff_toInt_lt, i32k] at *; omega)
  exact g_vret_p B hr hlocks () (rfl) (trivial) dX5_checkSlot_20

set_option maxHeartbeats 4000000 in
set_option maxRecDepth 100000 in
theorem k_checkSlot_x (l : Launch) (hfl : l.stackTraces = false) {D : va_G} {cI cL cZ : ClassId} (v1 : Int32) (h1 : inR v1 0 3 = false) : XM l yX5_checkSlot wsX5_checkSlot ({ frames := 6, cells := 1, slots := 6, locals := 100 } : Room) D (gTys cI cL cZ) [.int v1] [] "java/lang/IndexOutOfBoundsException" := by
  refine XM.ofG cX5_checkSlot 1 none (by decide +kernel) rfl (Nat.le_of_ble_eq_true rfl) ?_
  intro p e s m below meth c A hA hno hZ hXS B hlocks hK hN
  refine g_iload_n B dX5_checkSlot_0 0 rfl ?_
  refine g_if_lt (tgt := 9) B dX5_checkSlot_1 (by decide) (fun c1 => ?_) (fun c1 => ?_)
  · exact g_throwSW B hfl (fun x hx => (hno x hx).elim) hZ hXS hlocks 15 rfl 2 rfl (by decide +kernel) (by decide +kernel) (List.mem_of_getElem? (i := 1) rfl) (List.mem_of_getElem? (i := 2) rfl) hat_X5_checkSlot_93 hat2_RX5_93 hgd_RX5_93_89 dX5_checkSlot_9 dX5_checkSlot_12 dX5_checkSlot_13 dX5_checkSlot_16 dX5_checkSlot_19 (by decide) (Nat.le_of_ble_eq_true rfl) (by decide) (by decide) (by decide) (by decide)
  · refine g_iload_n B dX5_checkSlot_4 0 rfl ?_
    refine g_iconst (v := (4 : Int32)) B dX5_checkSlot_5 (by decide) ?_
    refine g_icmp_lt (tgt := 20) B dX5_checkSlot_6 (by decide) (fun c2 => ?_) (fun c2 => ?_)
    · exfalso; (simp only [inR, Bool.and_eq_true, Bool.and_eq_false_iff, decide_eq_true_eq, decide_eq_false_iff_not, Int32.not_le, Int32.not_lt, Int32.le_iff_toInt_le, Int32.lt_iff_toInt_lt, i32k] at *; omega)
    exact g_throwSW B hfl (fun x hx => (hno x hx).elim) hZ hXS hlocks 15 rfl 2 rfl (by decide +kernel) (by decide +kernel) (List.mem_of_getElem? (i := 1) rfl) (List.mem_of_getElem? (i := 2) rfl) hat_X5_checkSlot_93 hat2_RX5_93 hgd_RX5_93_89 dX5_checkSlot_9 dX5_checkSlot_12 dX5_checkSlot_13 dX5_checkSlot_16 dX5_checkSlot_19 (by decide) (Nat.le_of_ble_eq_true rfl) (by decide) (by decide) (by decide) (by decide)

set_option maxHeartbeats 4000000 in
set_option maxRecDepth 100000 in
theorem k_checkEdge_n (l : Launch) {D : va_G} {cI cL cZ : ClassId} (v1 : Nat) (h1 : v1 < 24) : PM l yX5_checkEdge wsX5_checkEdge ({ frames := 0, cells := 0, slots := 0, locals := 0 } : Room) D (gTys cI cL cZ) [.int (nI v1)] [] (fun (_ : Unit) => True) (fun (_ : Unit) => none) := by
  refine PM.ofG cX5_checkEdge 1 none (by decide +kernel) rfl (Nat.le_of_ble_eq_true rfl) ?_
  intro p e s m below meth c B hr hlocks hname hK hN
  refine g_iload_n B dX5_checkEdge_0 0 rfl ?_
  refine g_nif_lt (tgt := 10) B v1 rfl (by omega) dX5_checkEdge_1 (by decide) ?_
  refine g_iload_n B dX5_checkEdge_4 0 rfl ?_
  refine g_bipush (v := (24 : Int32)) B dX5_checkEdge_5 (by decide) ?_
  refine g_ncmp_lt (tgt := 21) B v1 24 rfl rfl (by omega) (by omega) dX5_checkEdge_7 (by decide) (fun c1 => ?_) (fun c1 => ?_)
  rotate_left; · exfalso; omega
  exact g_vret_p B hr hlocks () (rfl) (trivial) dX5_checkEdge_21

set_option maxHeartbeats 4000000 in
set_option maxRecDepth 100000 in
theorem k_checkEdge_t (l : Launch) {D : va_G} {cI cL cZ : ClassId} (v1 : Int32) (h1 : inR v1 0 23 = true) : PM l yX5_checkEdge wsX5_checkEdge ({ frames := 0, cells := 0, slots := 0, locals := 0 } : Room) D (gTys cI cL cZ) [.int v1] [] (fun (_ : Unit) => True) (fun (_ : Unit) => none) := by
  refine PM.ofG cX5_checkEdge 1 none (by decide +kernel) rfl (Nat.le_of_ble_eq_true rfl) ?_
  intro p e s m below meth c B hr hlocks hname hK hN
  refine g_iload_n B dX5_checkEdge_0 0 rfl ?_
  refine g_if_lt (tgt := 10) B dX5_checkEdge_1 (by decide) (fun c1 => ?_) (fun c1 => ?_)
  · exfalso; (simp only [inR, Bool.and_eq_true, Bool.and_eq_false_iff, decide_eq_true_eq, decide_eq_false_iff_not, Int32.not_le, Int32.not_lt, Int32.le_iff_toInt_le, Int32.lt_iff_toInt_lt, i32k] at *; omega)
  refine g_iload_n B dX5_checkEdge_4 0 rfl ?_
  refine g_bipush (v := (24 : Int32)) B dX5_checkEdge_5 (by decide) ?_
  refine g_icmp_lt (tgt := 21) B dX5_checkEdge_7 (by decide) (fun c2 => ?_) (fun c2 => ?_)
  rotate_left; · exfalso; (simp only [inR, Bool.and_eq_true, Bool.and_eq_false_iff, decide_eq_true_eq, decide_eq_false_iff_not, Int32.not_le, Int32.not_lt, Int32.le_iff_toInt_le, Int32.lt_iff_toInt_lt, i32k] at *; omega)
  exact g_vret_p B hr hlocks () (rfl) (trivial) dX5_checkEdge_21

set_option maxHeartbeats 4000000 in
set_option maxRecDepth 100000 in
theorem k_checkEdge_x (l : Launch) (hfl : l.stackTraces = false) {D : va_G} {cI cL cZ : ClassId} (v1 : Int32) (h1 : inR v1 0 23 = false) : XM l yX5_checkEdge wsX5_checkEdge ({ frames := 6, cells := 1, slots := 6, locals := 100 } : Room) D (gTys cI cL cZ) [.int v1] [] "java/lang/IndexOutOfBoundsException" := by
  refine XM.ofG cX5_checkEdge 1 none (by decide +kernel) rfl (Nat.le_of_ble_eq_true rfl) ?_
  intro p e s m below meth c A hA hno hZ hXS B hlocks hK hN
  refine g_iload_n B dX5_checkEdge_0 0 rfl ?_
  refine g_if_lt (tgt := 10) B dX5_checkEdge_1 (by decide) (fun c1 => ?_) (fun c1 => ?_)
  · exact g_throwSW B hfl (fun x hx => (hno x hx).elim) hZ hXS hlocks 14 rfl 2 rfl (by decide +kernel) (by decide +kernel) (List.mem_of_getElem? (i := 1) rfl) (List.mem_of_getElem? (i := 2) rfl) hat_X5_checkEdge_93 hat2_RX5_93 hgd_RX5_93_89 dX5_checkEdge_10 dX5_checkEdge_13 dX5_checkEdge_14 dX5_checkEdge_17 dX5_checkEdge_20 (by decide) (Nat.le_of_ble_eq_true rfl) (by decide) (by decide) (by decide) (by decide)
  · refine g_iload_n B dX5_checkEdge_4 0 rfl ?_
    refine g_bipush (v := (24 : Int32)) B dX5_checkEdge_5 (by decide) ?_
    refine g_icmp_lt (tgt := 21) B dX5_checkEdge_7 (by decide) (fun c2 => ?_) (fun c2 => ?_)
    · exfalso; (simp only [inR, Bool.and_eq_true, Bool.and_eq_false_iff, decide_eq_true_eq, decide_eq_false_iff_not, Int32.not_le, Int32.not_lt, Int32.le_iff_toInt_le, Int32.lt_iff_toInt_lt, i32k] at *; omega)
    exact g_throwSW B hfl (fun x hx => (hno x hx).elim) hZ hXS hlocks 14 rfl 2 rfl (by decide +kernel) (by decide +kernel) (List.mem_of_getElem? (i := 1) rfl) (List.mem_of_getElem? (i := 2) rfl) hat_X5_checkEdge_93 hat2_RX5_93 hgd_RX5_93_89 dX5_checkEdge_10 dX5_checkEdge_13 dX5_checkEdge_14 dX5_checkEdge_17 dX5_checkEdge_20 (by decide) (Nat.le_of_ble_eq_true rfl) (by decide) (by decide) (by decide) (by decide)

set_option maxHeartbeats 4000000 in
set_option maxRecDepth 100000 in
theorem k_checkCase_n (l : Launch) {D : va_G} {cI cL cZ : ClassId} (v1 : Nat) (h1 : v1 < 10000) : PM l yX5_checkCase wsX5_checkCase ({ frames := 0, cells := 0, slots := 0, locals := 0 } : Room) D (gTys cI cL cZ) [.int (nI v1)] [] (fun (_ : Unit) => True) (fun (_ : Unit) => none) := by
  refine PM.ofG cX5_checkCase 1 none (by decide +kernel) rfl (Nat.le_of_ble_eq_true rfl) ?_
  intro p e s m below meth c B hr hlocks hname hK hN
  refine g_iload_n B dX5_checkCase_0 0 rfl ?_
  refine g_nif_lt (tgt := 11) B v1 rfl (by omega) dX5_checkCase_1 (by decide) ?_
  refine g_iload_n B dX5_checkCase_4 0 rfl ?_
  refine g_sipush (v := (10000 : Int32)) B dX5_checkCase_5 (by decide) ?_
  refine g_ncmp_lt (tgt := 22) B v1 10000 rfl rfl (by omega) (by omega) dX5_checkCase_8 (by decide) (fun c1 => ?_) (fun c1 => ?_)
  rotate_left; · exfalso; omega
  exact g_vret_p B hr hlocks () (rfl) (trivial) dX5_checkCase_22

set_option maxHeartbeats 4000000 in
set_option maxRecDepth 100000 in
theorem k_checkCase_t (l : Launch) {D : va_G} {cI cL cZ : ClassId} (v1 : Int32) (h1 : inR v1 0 9999 = true) : PM l yX5_checkCase wsX5_checkCase ({ frames := 0, cells := 0, slots := 0, locals := 0 } : Room) D (gTys cI cL cZ) [.int v1] [] (fun (_ : Unit) => True) (fun (_ : Unit) => none) := by
  refine PM.ofG cX5_checkCase 1 none (by decide +kernel) rfl (Nat.le_of_ble_eq_true rfl) ?_
  intro p e s m below meth c B hr hlocks hname hK hN
  refine g_iload_n B dX5_checkCase_0 0 rfl ?_
  refine g_if_lt (tgt := 11) B dX5_checkCase_1 (by decide) (fun c1 => ?_) (fun c1 => ?_)
  · exfalso; (simp only [inR, Bool.and_eq_true, Bool.and_eq_false_iff, decide_eq_true_eq, decide_eq_false_iff_not, Int32.not_le, Int32.not_lt, Int32.le_iff_toInt_le, Int32.lt_iff_toInt_lt, i32k] at *; omega)
  refine g_iload_n B dX5_checkCase_4 0 rfl ?_
  refine g_sipush (v := (10000 : Int32)) B dX5_checkCase_5 (by decide) ?_
  refine g_icmp_lt (tgt := 22) B dX5_checkCase_8 (by decide) (fun c2 => ?_) (fun c2 => ?_)
  rotate_left; · exfalso; (simp only [inR, Bool.and_eq_true, Bool.and_eq_false_iff, decide_eq_true_eq, decide_eq_false_iff_not, Int32.not_le, Int32.not_lt, Int32.le_iff_toInt_le, Int32.lt_iff_toInt_lt, i32k] at *; omega)
  exact g_vret_p B hr hlocks () (rfl) (trivial) dX5_checkCase_22

set_option maxHeartbeats 4000000 in
set_option maxRecDepth 100000 in
theorem k_checkCase_x (l : Launch) (hfl : l.stackTraces = false) {D : va_G} {cI cL cZ : ClassId} (v1 : Int32) (h1 : inR v1 0 9999 = false) : XM l yX5_checkCase wsX5_checkCase ({ frames := 6, cells := 1, slots := 6, locals := 100 } : Room) D (gTys cI cL cZ) [.int v1] [] "java/lang/IllegalArgumentException" := by
  refine XM.ofG cX5_checkCase 1 none (by decide +kernel) rfl (Nat.le_of_ble_eq_true rfl) ?_
  intro p e s m below meth c A hA hno hZ hXS B hlocks hK hN
  refine g_iload_n B dX5_checkCase_0 0 rfl ?_
  refine g_if_lt (tgt := 11) B dX5_checkCase_1 (by decide) (fun c1 => ?_) (fun c1 => ?_)
  · exact g_throwSW B hfl (fun x hx => (hno x hx).elim) hZ hXS hlocks 18 rfl 0 rfl (by decide +kernel) (by decide +kernel) (List.mem_of_getElem? (i := 1) rfl) (List.mem_of_getElem? (i := 2) rfl) hat_X5_checkCase_121 hat2_RX5_121 hgd_RX5_121_117 dX5_checkCase_11 dX5_checkCase_14 dX5_checkCase_15 dX5_checkCase_18 dX5_checkCase_21 (by decide) (Nat.le_of_ble_eq_true rfl) (by decide) (by decide) (by decide) (by decide)
  · refine g_iload_n B dX5_checkCase_4 0 rfl ?_
    refine g_sipush (v := (10000 : Int32)) B dX5_checkCase_5 (by decide) ?_
    refine g_icmp_lt (tgt := 22) B dX5_checkCase_8 (by decide) (fun c2 => ?_) (fun c2 => ?_)
    · exfalso; (simp only [inR, Bool.and_eq_true, Bool.and_eq_false_iff, decide_eq_true_eq, decide_eq_false_iff_not, Int32.not_le, Int32.not_lt, Int32.le_iff_toInt_le, Int32.lt_iff_toInt_lt, i32k] at *; omega)
    exact g_throwSW B hfl (fun x hx => (hno x hx).elim) hZ hXS hlocks 18 rfl 0 rfl (by decide +kernel) (by decide +kernel) (List.mem_of_getElem? (i := 1) rfl) (List.mem_of_getElem? (i := 2) rfl) hat_X5_checkCase_121 hat2_RX5_121 hgd_RX5_121_117 dX5_checkCase_11 dX5_checkCase_14 dX5_checkCase_15 dX5_checkCase_18 dX5_checkCase_21 (by decide) (Nat.le_of_ble_eq_true rfl) (by decide) (by decide) (by decide) (by decide)

set_option maxHeartbeats 4000000 in
set_option maxRecDepth 100000 in
theorem k_checkWeight_n (l : Launch) {D : va_G} {cI cL cZ : ClassId} (v1 : Nat) (h1 : v1 < 10) : PM l yX5_checkWeight wsX5_checkWeight ({ frames := 0, cells := 0, slots := 0, locals := 0 } : Room) D (gTys cI cL cZ) [.int (nI v1)] [] (fun (_ : Unit) => True) (fun (_ : Unit) => none) := by
  refine PM.ofG cX5_checkWeight 1 none (by decide +kernel) rfl (Nat.le_of_ble_eq_true rfl) ?_
  intro p e s m below meth c B hr hlocks hname hK hN
  refine g_iload_n B dX5_checkWeight_0 0 rfl ?_
  refine g_nif_lt (tgt := 10) B v1 rfl (by omega) dX5_checkWeight_1 (by decide) ?_
  refine g_iload_n B dX5_checkWeight_4 0 rfl ?_
  refine g_bipush (v := (9 : Int32)) B dX5_checkWeight_5 (by decide) ?_
  refine g_ncmp_le (tgt := 21) B v1 9 rfl rfl (by omega) (by omega) dX5_checkWeight_7 (by decide) (fun c1 => ?_) (fun c1 => ?_)
  rotate_left; · exfalso; omega
  exact g_vret_p B hr hlocks () (rfl) (trivial) dX5_checkWeight_21

set_option maxHeartbeats 4000000 in
set_option maxRecDepth 100000 in
theorem k_checkWeight_t (l : Launch) {D : va_G} {cI cL cZ : ClassId} (v1 : Int32) (h1 : inR v1 0 9 = true) : PM l yX5_checkWeight wsX5_checkWeight ({ frames := 0, cells := 0, slots := 0, locals := 0 } : Room) D (gTys cI cL cZ) [.int v1] [] (fun (_ : Unit) => True) (fun (_ : Unit) => none) := by
  refine PM.ofG cX5_checkWeight 1 none (by decide +kernel) rfl (Nat.le_of_ble_eq_true rfl) ?_
  intro p e s m below meth c B hr hlocks hname hK hN
  refine g_iload_n B dX5_checkWeight_0 0 rfl ?_
  refine g_if_lt (tgt := 10) B dX5_checkWeight_1 (by decide) (fun c1 => ?_) (fun c1 => ?_)
  · exfalso; (simp only [inR, Bool.and_eq_true, Bool.and_eq_false_iff, decide_eq_true_eq, decide_eq_false_iff_not, Int32.not_le, Int32.not_lt, Int32.le_iff_toInt_le, Int32.lt_iff_toInt_lt, i32k] at *; omega)
  refine g_iload_n B dX5_checkWeight_4 0 rfl ?_
  refine g_bipush (v := (9 : Int32)) B dX5_checkWeight_5 (by decide) ?_
  refine g_icmp_le (tgt := 21) B dX5_checkWeight_7 (by decide) (fun c2 => ?_) (fun c2 => ?_)
  rotate_left; · exfalso; (simp only [inR, Bool.and_eq_true, Bool.and_eq_false_iff, decide_eq_true_eq, decide_eq_false_iff_not, Int32.not_le, Int32.not_lt, Int32.le_iff_toInt_le, Int32.lt_iff_toInt_lt, i32k] at *; omega)
  exact g_vret_p B hr hlocks () (rfl) (trivial) dX5_checkWeight_21

set_option maxHeartbeats 4000000 in
set_option maxRecDepth 100000 in
theorem k_checkWeight_x (l : Launch) (hfl : l.stackTraces = false) {D : va_G} {cI cL cZ : ClassId} (v1 : Int32) (h1 : inR v1 0 9 = false) : XM l yX5_checkWeight wsX5_checkWeight ({ frames := 6, cells := 1, slots := 6, locals := 100 } : Room) D (gTys cI cL cZ) [.int v1] [] "java/lang/IllegalArgumentException" := by
  refine XM.ofG cX5_checkWeight 1 none (by decide +kernel) rfl (Nat.le_of_ble_eq_true rfl) ?_
  intro p e s m below meth c A hA hno hZ hXS B hlocks hK hN
  refine g_iload_n B dX5_checkWeight_0 0 rfl ?_
  refine g_if_lt (tgt := 10) B dX5_checkWeight_1 (by decide) (fun c1 => ?_) (fun c1 => ?_)
  · exact g_throwSW B hfl (fun x hx => (hno x hx).elim) hZ hXS hlocks 19 rfl 0 rfl (by decide +kernel) (by decide +kernel) (List.mem_of_getElem? (i := 1) rfl) (List.mem_of_getElem? (i := 2) rfl) hat_X5_checkWeight_121 hat2_RX5_121 hgd_RX5_121_117 dX5_checkWeight_10 dX5_checkWeight_13 dX5_checkWeight_14 dX5_checkWeight_17 dX5_checkWeight_20 (by decide) (Nat.le_of_ble_eq_true rfl) (by decide) (by decide) (by decide) (by decide)
  · refine g_iload_n B dX5_checkWeight_4 0 rfl ?_
    refine g_bipush (v := (9 : Int32)) B dX5_checkWeight_5 (by decide) ?_
    refine g_icmp_le (tgt := 21) B dX5_checkWeight_7 (by decide) (fun c2 => ?_) (fun c2 => ?_)
    · exfalso; (simp only [inR, Bool.and_eq_true, Bool.and_eq_false_iff, decide_eq_true_eq, decide_eq_false_iff_not, Int32.not_le, Int32.not_lt, Int32.le_iff_toInt_le, Int32.lt_iff_toInt_lt, i32k] at *; omega)
    exact g_throwSW B hfl (fun x hx => (hno x hx).elim) hZ hXS hlocks 19 rfl 0 rfl (by decide +kernel) (by decide +kernel) (List.mem_of_getElem? (i := 1) rfl) (List.mem_of_getElem? (i := 2) rfl) hat_X5_checkWeight_121 hat2_RX5_121 hgd_RX5_121_117 dX5_checkWeight_10 dX5_checkWeight_13 dX5_checkWeight_14 dX5_checkWeight_17 dX5_checkWeight_20 (by decide) (Nat.le_of_ble_eq_true rfl) (by decide) (by decide) (by decide) (by decide)

set_option maxHeartbeats 4000000 in
set_option maxRecDepth 100000 in
theorem k_checkQuestion_n (l : Launch) {D : va_G} {cI cL cZ : ClassId} (v1 : Nat) (v2 : Nat) (h1 : v1 < 3) (h2 : v2 < 10) : PM l yX5_checkQuestion wsX5_checkQuestion ({ frames := 0, cells := 0, slots := 0, locals := 0 } : Room) D (gTys cI cL cZ) [.int (nI v1), .int (nI v2)] [] (fun (_ : Unit) => True) (fun (_ : Unit) => none) := by
  refine PM.ofG cX5_checkQuestion 2 none (by decide +kernel) rfl (Nat.le_of_ble_eq_true rfl) ?_
  intro p e s m below meth c B hr hlocks hname hK hN
  refine g_iload_n B dX5_checkQuestion_0 0 rfl ?_
  refine g_nif_lt (tgt := 9) B v1 rfl (by omega) dX5_checkQuestion_1 (by decide) ?_
  refine g_iload_n B dX5_checkQuestion_4 0 rfl ?_
  refine g_iconst (v := (2 : Int32)) B dX5_checkQuestion_5 (by decide) ?_
  refine g_ncmp_le (tgt := 20) B v1 2 rfl rfl (by omega) (by omega) dX5_checkQuestion_6 (by decide) (fun c1 => ?_) (fun c1 => ?_)
  rotate_left; · exfalso; omega
  refine g_iload_n B dX5_checkQuestion_20 1 rfl ?_
  refine g_nif_lt (tgt := 30) B v2 rfl (by omega) dX5_checkQuestion_21 (by decide) ?_
  refine g_iload_n B dX5_checkQuestion_24 1 rfl ?_
  refine g_bipush (v := (10 : Int32)) B dX5_checkQuestion_25 (by decide) ?_
  refine g_ncmp_lt (tgt := 41) B v2 10 rfl rfl (by omega) (by omega) dX5_checkQuestion_27 (by decide) (fun c2 => ?_) (fun c2 => ?_)
  rotate_left; · exfalso; omega
  exact g_vret_p B hr hlocks () (rfl) (trivial) dX5_checkQuestion_41

set_option maxHeartbeats 4000000 in
set_option maxRecDepth 100000 in
theorem k_checkQuestion_x0 (l : Launch) (hfl : l.stackTraces = false) {D : va_G} {cI cL cZ : ClassId} (v1 : Int32) (v2 : Int32) (h1 : inR v1 0 2 = false) : XM l yX5_checkQuestion wsX5_checkQuestion ({ frames := 6, cells := 1, slots := 6, locals := 100 } : Room) D (gTys cI cL cZ) [.int v1, .int v2] [] "java/lang/IllegalArgumentException" := by
  refine XM.ofG cX5_checkQuestion 2 none (by decide +kernel) rfl (Nat.le_of_ble_eq_true rfl) ?_
  intro p e s m below meth c A hA hno hZ hXS B hlocks hK hN
  refine g_iload_n B dX5_checkQuestion_0 0 rfl ?_
  refine g_if_lt (tgt := 9) B dX5_checkQuestion_1 (by decide) (fun c1 => ?_) (fun c1 => ?_)
  · exact g_throwSW B hfl (fun x hx => (hno x hx).elim) hZ hXS hlocks 16 rfl 0 rfl (by decide +kernel) (by decide +kernel) (List.mem_of_getElem? (i := 1) rfl) (List.mem_of_getElem? (i := 2) rfl) hat_X5_checkQuestion_121 hat2_RX5_121 hgd_RX5_121_117 dX5_checkQuestion_9 dX5_checkQuestion_12 dX5_checkQuestion_13 dX5_checkQuestion_16 dX5_checkQuestion_19 (by decide) (Nat.le_of_ble_eq_true rfl) (by decide) (by decide) (by decide) (by decide)
  · refine g_iload_n B dX5_checkQuestion_4 0 rfl ?_
    refine g_iconst (v := (2 : Int32)) B dX5_checkQuestion_5 (by decide) ?_
    refine g_icmp_le (tgt := 20) B dX5_checkQuestion_6 (by decide) (fun c2 => ?_) (fun c2 => ?_)
    · exfalso; (simp only [inR, Bool.and_eq_true, Bool.and_eq_false_iff, decide_eq_true_eq, decide_eq_false_iff_not, Int32.not_le, Int32.not_lt, Int32.le_iff_toInt_le, Int32.lt_iff_toInt_lt, i32k] at *; omega)
    exact g_throwSW B hfl (fun x hx => (hno x hx).elim) hZ hXS hlocks 16 rfl 0 rfl (by decide +kernel) (by decide +kernel) (List.mem_of_getElem? (i := 1) rfl) (List.mem_of_getElem? (i := 2) rfl) hat_X5_checkQuestion_121 hat2_RX5_121 hgd_RX5_121_117 dX5_checkQuestion_9 dX5_checkQuestion_12 dX5_checkQuestion_13 dX5_checkQuestion_16 dX5_checkQuestion_19 (by decide) (Nat.le_of_ble_eq_true rfl) (by decide) (by decide) (by decide) (by decide)

set_option maxHeartbeats 4000000 in
set_option maxRecDepth 100000 in
theorem k_checkQuestion_x1 (l : Launch) (hfl : l.stackTraces = false) {D : va_G} {cI cL cZ : ClassId} (v1 : Int32) (v2 : Int32) (h1 : inR v1 0 2 = true) (h2 : inR v2 0 9 = false) : XM l yX5_checkQuestion wsX5_checkQuestion ({ frames := 6, cells := 1, slots := 6, locals := 100 } : Room) D (gTys cI cL cZ) [.int v1, .int v2] [] "java/lang/IllegalArgumentException" := by
  refine XM.ofG cX5_checkQuestion 2 none (by decide +kernel) rfl (Nat.le_of_ble_eq_true rfl) ?_
  intro p e s m below meth c A hA hno hZ hXS B hlocks hK hN
  refine g_iload_n B dX5_checkQuestion_0 0 rfl ?_
  refine g_if_lt (tgt := 9) B dX5_checkQuestion_1 (by decide) (fun c1 => ?_) (fun c1 => ?_)
  · exfalso; (simp only [inR, Bool.and_eq_true, Bool.and_eq_false_iff, decide_eq_true_eq, decide_eq_false_iff_not, Int32.not_le, Int32.not_lt, Int32.le_iff_toInt_le, Int32.lt_iff_toInt_lt, i32k] at *; omega)
  refine g_iload_n B dX5_checkQuestion_4 0 rfl ?_
  refine g_iconst (v := (2 : Int32)) B dX5_checkQuestion_5 (by decide) ?_
  refine g_icmp_le (tgt := 20) B dX5_checkQuestion_6 (by decide) (fun c2 => ?_) (fun c2 => ?_)
  rotate_left; · exfalso; (simp only [inR, Bool.and_eq_true, Bool.and_eq_false_iff, decide_eq_true_eq, decide_eq_false_iff_not, Int32.not_le, Int32.not_lt, Int32.le_iff_toInt_le, Int32.lt_iff_toInt_lt, i32k] at *; omega)
  refine g_iload_n B dX5_checkQuestion_20 1 rfl ?_
  refine g_if_lt (tgt := 30) B dX5_checkQuestion_21 (by decide) (fun c3 => ?_) (fun c3 => ?_)
  · exact g_throwSW B hfl (fun x hx => (hno x hx).elim) hZ hXS hlocks 17 rfl 0 rfl (by decide +kernel) (by decide +kernel) (List.mem_of_getElem? (i := 1) rfl) (List.mem_of_getElem? (i := 2) rfl) hat_X5_checkQuestion_121 hat2_RX5_121 hgd_RX5_121_117 dX5_checkQuestion_30 dX5_checkQuestion_33 dX5_checkQuestion_34 dX5_checkQuestion_37 dX5_checkQuestion_40 (by decide) (Nat.le_of_ble_eq_true rfl) (by decide) (by decide) (by decide) (by decide)
  · refine g_iload_n B dX5_checkQuestion_24 1 rfl ?_
    refine g_bipush (v := (10 : Int32)) B dX5_checkQuestion_25 (by decide) ?_
    refine g_icmp_lt (tgt := 41) B dX5_checkQuestion_27 (by decide) (fun c4 => ?_) (fun c4 => ?_)
    · exfalso; (simp only [inR, Bool.and_eq_true, Bool.and_eq_false_iff, decide_eq_true_eq, decide_eq_false_iff_not, Int32.not_le, Int32.not_lt, Int32.le_iff_toInt_le, Int32.lt_iff_toInt_lt, i32k] at *; omega)
    exact g_throwSW B hfl (fun x hx => (hno x hx).elim) hZ hXS hlocks 17 rfl 0 rfl (by decide +kernel) (by decide +kernel) (List.mem_of_getElem? (i := 1) rfl) (List.mem_of_getElem? (i := 2) rfl) hat_X5_checkQuestion_121 hat2_RX5_121 hgd_RX5_121_117 dX5_checkQuestion_30 dX5_checkQuestion_33 dX5_checkQuestion_34 dX5_checkQuestion_37 dX5_checkQuestion_40 (by decide) (Nat.le_of_ble_eq_true rfl) (by decide) (by decide) (by decide) (by decide)

set_option maxHeartbeats 4000000 in
set_option maxRecDepth 100000 in
theorem k_checkTarget_m (l : Launch) {D : va_G} {cI cL cZ : ClassId}   : PM l yX5_checkTarget wsX5_checkTarget ({ frames := 0, cells := 0, slots := 0, locals := 0 } : Room) D (gTys cI cL cZ) [.int (-1 : Int32)] [] (fun (_ : Unit) => True) (fun (_ : Unit) => none) := by
  refine PM.ofG cX5_checkTarget 1 none (by decide +kernel) rfl (Nat.le_of_ble_eq_true rfl) ?_
  intro p e s m below meth c B hr hlocks hname hK hN
  refine g_iload_n B dX5_checkTarget_0 0 rfl ?_
  refine g_iconst (v := (-1 : Int32)) B dX5_checkTarget_1 (by decide) ?_
  refine g_icmp_eq (tgt := 23) B dX5_checkTarget_2 (by decide) (fun _ => ?_) (fun c1 => absurd (by decide) c1)
  exact g_vret_p B hr hlocks () (rfl) (trivial) dX5_checkTarget_23

set_option maxHeartbeats 4000000 in
set_option maxRecDepth 100000 in
theorem k_checkTarget_n (l : Launch) {D : va_G} {cI cL cZ : ClassId} (v1 : Nat) (h1 : v1 < 12) : PM l yX5_checkTarget wsX5_checkTarget ({ frames := 1, cells := 0, slots := 0, locals := 20 } : Room) D (gTys cI cL cZ) [.int (nI v1)] [] (fun (_ : Unit) => True) (fun (_ : Unit) => none) := by
  refine PM.ofG cX5_checkTarget 1 none (by decide +kernel) rfl (Nat.le_of_ble_eq_true rfl) ?_
  intro p e s m below meth c B hr hlocks hname hK hN
  refine g_iload_n B dX5_checkTarget_0 0 rfl ?_
  refine g_iconst (v := (-1 : Int32)) B dX5_checkTarget_1 (by decide) ?_
  refine g_icmp_eq (tgt := 23) B dX5_checkTarget_2 (by decide) (fun c1 => ?_) (fun c1 => ?_)
  · exfalso; exact absurd c1 (nI_nem (by omega))
  refine g_iload_n B dX5_checkTarget_5 0 rfl ?_
  refine g_callP (g_runS B (PM.met (c_X5_isNode_n l (D := D) (cI := cI) (cL := cL) (cZ := cZ) v1 (by omega))) (gPp.pre (av := [.int (nI v1)]) (wc := []) hK hN [] rfl (by decide)) gX5_checkTarget_X5_isNode rfl kd_X5_isNode ⟨by decide, by decide⟩ (st := []) rfl (Nat.le_of_ble_eq_true rfl) dX5_checkTarget_6 ⟨by decide, by decide⟩) (fun u hu => ?_)
  refine g_if_ne (tgt := 23) B dX5_checkTarget_9 (by decide) (fun _ => ?_) (fun c3 => absurd c3 (by decide))
  exact g_vret_p B hr hlocks () (rfl) (trivial) dX5_checkTarget_23

set_option maxHeartbeats 4000000 in
set_option maxRecDepth 100000 in
theorem k_checkTarget_t (l : Launch) {D : va_G} {cI cL cZ : ClassId} (v1 : Int32) (hy : ¬ v1 = -1 → inR v1 0 11 = true) : PM l yX5_checkTarget wsX5_checkTarget ({ frames := 1, cells := 0, slots := 0, locals := 20 } : Room) D (gTys cI cL cZ) [.int v1] [] (fun (_ : Unit) => True) (fun (_ : Unit) => none) := by
  refine PM.ofG cX5_checkTarget 1 none (by decide +kernel) rfl (Nat.le_of_ble_eq_true rfl) ?_
  intro p e s m below meth c B hr hlocks hname hK hN
  refine g_iload_n B dX5_checkTarget_0 0 rfl ?_
  refine g_iconst (v := (-1 : Int32)) B dX5_checkTarget_1 (by decide) ?_
  refine g_icmp_eq (tgt := 23) B dX5_checkTarget_2 (by decide) (fun c1 => ?_) (fun c1 => ?_)
  · exact g_vret_p B hr hlocks () (rfl) (trivial) dX5_checkTarget_23
  · refine g_iload_n B dX5_checkTarget_5 0 rfl ?_
    refine g_callP (g_runS B (PM.met (k_isNode_t l (D := D) (cI := cI) (cL := cL) (cZ := cZ) v1 (by first | assumption | exact hy (by assumption) | exact hz (by assumption)))) (gPp.pre (av := [.int v1]) (wc := []) hK hN [] rfl (by decide)) gX5_checkTarget_X5_isNode rfl kd_X5_isNode ⟨by decide, by decide⟩ (st := []) rfl (Nat.le_of_ble_eq_true rfl) dX5_checkTarget_6 ⟨by decide, by decide⟩) (fun u hu => ?_)
    refine g_if_ne (tgt := 23) B dX5_checkTarget_9 (by decide) (fun _ => ?_) (fun c3 => absurd c3 (by decide))
    exact g_vret_p B hr hlocks () (rfl) (trivial) dX5_checkTarget_23

set_option maxHeartbeats 4000000 in
set_option maxRecDepth 100000 in
theorem k_checkTarget_x (l : Launch) (hfl : l.stackTraces = false) {D : va_G} {cI cL cZ : ClassId} (v1 : Int32) (h0 : ¬ v1 = -1) (h1 : inR v1 0 11 = false) : XM l yX5_checkTarget wsX5_checkTarget ({ frames := 6, cells := 1, slots := 6, locals := 100 } : Room) D (gTys cI cL cZ) [.int v1] [] "java/lang/IndexOutOfBoundsException" := by
  refine XM.ofG cX5_checkTarget 1 none (by decide +kernel) rfl (Nat.le_of_ble_eq_true rfl) ?_
  intro p e s m below meth c A hA hno hZ hXS B hlocks hK hN
  refine g_iload_n B dX5_checkTarget_0 0 rfl ?_
  refine g_iconst (v := (-1 : Int32)) B dX5_checkTarget_1 (by decide) ?_
  refine g_icmp_eq (tgt := 23) B dX5_checkTarget_2 (by decide) (fun c1 => ?_) (fun c1 => ?_)
  · exfalso; exact h0 c1
  refine g_iload_n B dX5_checkTarget_5 0 rfl ?_
  refine g_callP (g_runS B (PM.met (k_isNode_f l (D := D) (cI := cI) (cL := cL) (cZ := cZ) v1 (by first | assumption | exact hy (by assumption) | exact hz (by assumption)))) (gPp.pre (av := [.int v1]) (wc := []) hK hN [] rfl (by decide)) gX5_checkTarget_X5_isNode rfl kd_X5_isNode ⟨by decide, by decide⟩ (st := []) rfl (Nat.le_of_ble_eq_true rfl) dX5_checkTarget_6 ⟨by decide, by decide⟩) (fun u hu => ?_)
  refine g_if_ne (tgt := 23) B dX5_checkTarget_9 (by decide) (fun c3 => absurd (by decide) c3) (fun _ => ?_)
  exact g_throwSW B hfl (fun x hx => (hno x hx).elim) hZ hXS hlocks 13 rfl 2 rfl (by decide +kernel) (by decide +kernel) (List.mem_of_getElem? (i := 1) rfl) (List.mem_of_getElem? (i := 2) rfl) hat_X5_checkTarget_93 hat2_RX5_93 hgd_RX5_93_89 dX5_checkTarget_12 dX5_checkTarget_15 dX5_checkTarget_16 dX5_checkTarget_19 dX5_checkTarget_22 (by decide) (Nat.le_of_ble_eq_true rfl) (by decide) (by decide) (by decide) (by decide)

set_option maxHeartbeats 4000000 in
set_option maxRecDepth 100000 in
theorem k_checkRoom_v (l : Launch) {D : va_G} {cI cL cZ : ClassId} (hb : Nat) (hp : Nat) (ht : Nat) (hg : Nat) (ha : Nat) (hq : Nat) (a0 : Nat) (a1 : Nat) (a2 : Nat) (a3 : Nat)  : PM l yX5_checkRoom wsX5_checkRoom ({ frames := 0, cells := 0, slots := 0, locals := 0 } : Room) D (gTys cI cL cZ) [.ref hb] [(hb, .inr (5, [.ref hp, .ref ht, .ref hg, .ref ha, .ref hq])), (ha, .inr (0, [.ref a0, .ref a1, .ref a2, .ref a3, .int (0 : Int32), .long (0 : Int64)]))] (fun (_ : Unit) => True) (fun (_ : Unit) => none) := by
  refine PM.ofG cX5_checkRoom 1 none (by decide +kernel) rfl (Nat.le_of_ble_eq_true rfl) ?_
  intro p e s m below meth c B hr hlocks hname hK hN
  refine g_aload_n B dX5_checkRoom_0 0 rfl ?_
  refine g_get (C := RX5) (T := TX5) (N := 5) (ci := 5) B hK hin_X5_checkRoom_RX5 0 rfl rfl 3 (by decide) (List.mem_of_getElem? (i := 3) rfl) rfl (v := .ref ha) rfl dX5_checkRoom_1 ?_
  refine g_getN (C := RX0) (T := TX0) (N := 6) (ci := 0) B hK hin_X5_checkRoom_RX0 1 rfl rfl 4 (by decide) hN 4 rfl rfl (v := .int (0 : Int32)) rfl dX5_checkRoom_4 ?_
  refine g_bipush (v := (40 : Int32)) B dX5_checkRoom_7 (by decide) ?_
  refine g_icmp_lt (tgt := 23) B dX5_checkRoom_9 (by decide) (fun _ => ?_) (fun c1 => absurd (by decide) c1)
  exact g_vret_p B hr hlocks () (rfl) (trivial) dX5_checkRoom_23

set_option maxHeartbeats 4000000 in
set_option maxRecDepth 100000 in
theorem k_checkRelation_x (l : Launch) (hfl : l.stackTraces = false) {D : va_G} {cI cL cZ : ClassId} (hb : Nat) (hp : Nat) (ht : Nat) (hg : Nat) (ha : Nat) (hq : Nat) (r0 : Nat) (r1 : Nat) (r2 : Nat) (v1 : Int32)  : XM l yX5_checkRelation wsX5_checkRelation ({ frames := 6, cells := 1, slots := 6, locals := 100 } : Room) D (gTys cI cL cZ) [.ref hb, .int v1] [(hb, .inr (5, [.ref hp, .ref ht, .ref hg, .ref ha, .ref hq])), (hq, .inr (3, [.ref r0, .ref r1, .ref r2, .int (0 : Int32)]))] "java/lang/IndexOutOfBoundsException" := by
  refine XM.ofG cX5_checkRelation 2 none (by decide +kernel) rfl (Nat.le_of_ble_eq_true rfl) ?_
  intro p e s m below meth c A hA hno hZ hXS B hlocks hK hN
  refine g_iload_n B dX5_checkRelation_0 1 rfl ?_
  refine g_if_lt (tgt := 21) B dX5_checkRelation_1 (by decide) (fun c1 => ?_) (fun c1 => ?_)
  · exact g_throwSW B hfl (fun x hx => (hno x hx).elim) hZ hXS hlocks 21 rfl 2 rfl (by decide +kernel) (by decide +kernel) (List.mem_of_getElem? (i := 1) rfl) (List.mem_of_getElem? (i := 2) rfl) hat_X5_checkRelation_93 hat2_RX5_93 hgd_RX5_93_89 dX5_checkRelation_21 dX5_checkRelation_24 dX5_checkRelation_25 dX5_checkRelation_28 dX5_checkRelation_31 (by decide) (Nat.le_of_ble_eq_true rfl) (by decide) (by decide) (by decide) (by decide)
  · refine g_iload_n B dX5_checkRelation_4 1 rfl ?_
    refine g_aload_n B dX5_checkRelation_5 0 rfl ?_
    refine g_get (C := RX5) (T := TX5) (N := 5) (ci := 5) B hK hin_X5_checkRelation_RX5 0 rfl rfl 4 (by decide) (List.mem_of_getElem? (i := 3) rfl) rfl (v := .ref hq) rfl dX5_checkRelation_6 ?_
    refine g_getN (C := RX3) (T := TX3) (N := 4) (ci := 3) B hK hin_X5_checkRelation_RX3 1 rfl rfl 3 (by decide) hN 8 rfl rfl (v := .int (0 : Int32)) rfl dX5_checkRelation_9 ?_
    refine g_icmp_ge (tgt := 21) B dX5_checkRelation_12 (by decide) (fun c2 => ?_) (fun c2 => ?_)
    rotate_left; · exfalso; exact absurd (Int32.not_lt.mp c1) c2
    exact g_throwSW B hfl (fun x hx => (hno x hx).elim) hZ hXS hlocks 21 rfl 2 rfl (by decide +kernel) (by decide +kernel) (List.mem_of_getElem? (i := 1) rfl) (List.mem_of_getElem? (i := 2) rfl) hat_X5_checkRelation_93 hat2_RX5_93 hgd_RX5_93_89 dX5_checkRelation_21 dX5_checkRelation_24 dX5_checkRelation_25 dX5_checkRelation_28 dX5_checkRelation_31 (by decide) (Nat.le_of_ble_eq_true rfl) (by decide) (by decide) (by decide) (by decide)

