/-! the class on a fresh object: its face, calls that throw -/
theorem kd_X0_mostEnergetic : yX0_mostEnergetic.cls ≠ "java/lang/invoke/MethodHandle" ∧ yX0_mostEnergetic.cls ≠ "java/lang/invoke/VarHandle" ∧ (parseMethodDescriptor yX0_mostEnergetic.desc).map (fun d => d.parameters.length) = some 0 := by decide +kernel
theorem kd_X5_checkRelation : yX5_checkRelation.cls ≠ "java/lang/invoke/MethodHandle" ∧ yX5_checkRelation.cls ≠ "java/lang/invoke/VarHandle" ∧ (parseMethodDescriptor yX5_checkRelation.desc).map (fun d => d.parameters.length) = some 1 := by decide +kernel
theorem hin_X5_mutate_RX5 : ∀ z ∈ u_ws RX5 TX5 5, z ∈ wsX5_mutate := by decide +kernel
theorem hin_X5_ofKnown_RX0 : ∀ z ∈ u_ws RX0 TX0 6, z ∈ wsX5_ofKnown := by decide +kernel
theorem hin_X5_ofKnown_RX5 : ∀ z ∈ u_ws RX5 TX5 5, z ∈ wsX5_ofKnown := by decide +kernel
theorem hat_X5_ahead_121 : ∀ z ∈ (vx_atS RX5 121 "java/lang/IllegalArgumentException" ["java/lang/RuntimeException", "java/lang/Exception"]).filter goodWord, z ∈ wsX5_ahead := by decide +kernel
theorem hat_X5_draw_121 : ∀ z ∈ (vx_atS RX5 121 "java/lang/IllegalArgumentException" ["java/lang/RuntimeException", "java/lang/Exception"]).filter goodWord, z ∈ wsX5_draw := by decide +kernel
theorem hat_X5_edge_93 : ∀ z ∈ (vx_atS RX5 93 "java/lang/IndexOutOfBoundsException" ["java/lang/RuntimeException", "java/lang/Exception"]).filter goodWord, z ∈ wsX5_edge := by decide +kernel
theorem hat_X5_many_121 : ∀ z ∈ (vx_atS RX5 121 "java/lang/IllegalArgumentException" ["java/lang/RuntimeException", "java/lang/Exception"]).filter goodWord, z ∈ wsX5_many := by decide +kernel
theorem hat_X5_mutate_141 : ∀ z ∈ (vx_atS RX5 141 "java/lang/IllegalStateException" ["java/lang/RuntimeException", "java/lang/Exception"]).filter goodWord, z ∈ wsX5_mutate := by decide +kernel
theorem hat2_RX5_141 : ∀ z ∈ (vx_atS RX5 141 "java/lang/IllegalStateException" ["java/lang/RuntimeException", "java/lang/Exception"]).filter (fun z => !goodWord z), z ∈ Cond.castable "java/lang/IllegalStateException" "java/lang/IllegalStateException" :: XDL.map Cond.declares := by decide +kernel
theorem hat_X5_ofEdge_121 : ∀ z ∈ (vx_atS RX5 121 "java/lang/IllegalArgumentException" ["java/lang/RuntimeException", "java/lang/Exception"]).filter goodWord, z ∈ wsX5_ofEdge := by decide +kernel
theorem hat_X5_ofKnown_93 : ∀ z ∈ (vx_atS RX5 93 "java/lang/IndexOutOfBoundsException" ["java/lang/RuntimeException", "java/lang/Exception"]).filter goodWord, z ∈ wsX5_ofKnown := by decide +kernel
theorem hat_X5_relation_121 : ∀ z ∈ (vx_atS RX5 121 "java/lang/IllegalArgumentException" ["java/lang/RuntimeException", "java/lang/Exception"]).filter goodWord, z ∈ wsX5_relation := by decide +kernel
theorem hat_X5_shrink_121 : ∀ z ∈ (vx_atS RX5 121 "java/lang/IllegalArgumentException" ["java/lang/RuntimeException", "java/lang/Exception"]).filter goodWord, z ∈ wsX5_shrink := by decide +kernel
theorem hgd_RX5_141_137 : ∀ z ∈ Cond.classLink RX5 137 "java/lang/IllegalStateException" :: Cond.initialized "java/lang/IllegalStateException" :: vx_atS RX5 141 "java/lang/IllegalStateException" ["java/lang/RuntimeException", "java/lang/Exception"], vx_ot z = true := by decide +kernel
set_option maxHeartbeats 4000000 in
set_option maxRecDepth 100000 in
theorem k_ask_x0 (l : Launch) (hfl : l.stackTraces = false) {D : va_G} {cI cL cZ : ClassId} (hb : Nat) (a1 : Int32) (a2 : Int32) (a3 : Int32) (a4 : Int32) (h_a1 : inR a1 0 11 = false) : XM l yX5_ask wsX5_ask ({ frames := 7, cells := 1, slots := 6, locals := 120 } : Room) D (gTys cI cL cZ) [.ref hb, .int a1, .int a2, .int a3, .int a4] [] "java/lang/IndexOutOfBoundsException" := by
  refine XM.ofG cX5_ask 5 (some .int) (by decide +kernel) rfl (Nat.le_of_ble_eq_true rfl) ?_
  intro p e s m below meth c A hA hno hZ hXS B hlocks hK hN
  refine g_iload_n B dX5_ask_0 1 rfl ?_
  exact g_xout (g_xrunS B (k_checkNode_x l hfl (D := D) (cI := cI) (cL := cL) (cZ := cZ) a1 (by first | assumption | exact hy (by assumption) | exact hz (by assumption))) hK hN hZ hXS hA [] rfl (by decide) gX5_ask_X5_checkNode rfl kd_X5_checkNode ⟨by decide, by decide⟩ (st := []) rfl (Nat.le_of_ble_eq_true rfl) dX5_ask_1 ⟨by decide, by decide⟩) (fun x hx => (hno x hx).elim) hlocks hA [] rfl (by decide) (by decide)

set_option maxHeartbeats 4000000 in
set_option maxRecDepth 100000 in
theorem k_ask_x1 (l : Launch) (hfl : l.stackTraces = false) {D : va_G} {cI cL cZ : ClassId} (hb : Nat) (a1 : Int32) (a2 : Int32) (a3 : Int32) (a4 : Int32) (h_a1 : inR a1 0 11 = true) (h_a2 : inR a2 0 3 = false) : XM l yX5_ask wsX5_ask ({ frames := 7, cells := 1, slots := 6, locals := 120 } : Room) D (gTys cI cL cZ) [.ref hb, .int a1, .int a2, .int a3, .int a4] [] "java/lang/IndexOutOfBoundsException" := by
  refine XM.ofG cX5_ask 5 (some .int) (by decide +kernel) rfl (Nat.le_of_ble_eq_true rfl) ?_
  intro p e s m below meth c A hA hno hZ hXS B hlocks hK hN
  refine g_iload_n B dX5_ask_0 1 rfl ?_
  refine g_callP (g_runS B (PM.met (k_checkNode_t l (D := D) (cI := cI) (cL := cL) (cZ := cZ) a1 (by first | assumption | exact hy (by assumption) | exact hz (by assumption)))) (gPp.pre (av := [.int a1]) (wc := []) hK hN [] rfl (by decide)) gX5_ask_X5_checkNode rfl kd_X5_checkNode ⟨by decide, by decide⟩ (st := []) rfl (Nat.le_of_ble_eq_true rfl) dX5_ask_1 ⟨by decide, by decide⟩) (fun u hu => ?_)
  refine g_iload_n B dX5_ask_4 2 rfl ?_
  exact g_xout (g_xrunS B (k_checkSlot_x l hfl (D := D) (cI := cI) (cL := cL) (cZ := cZ) a2 (by first | assumption | exact hy (by assumption) | exact hz (by assumption))) hK hN hZ hXS hA [] rfl (by decide) gX5_ask_X5_checkSlot rfl kd_X5_checkSlot ⟨by decide, by decide⟩ (st := []) rfl (Nat.le_of_ble_eq_true rfl) dX5_ask_5 ⟨by decide, by decide⟩) (fun x hx => (hno x hx).elim) hlocks hA [] rfl (by decide) (by decide)

set_option maxHeartbeats 4000000 in
set_option maxRecDepth 100000 in
theorem k_ask_x2 (l : Launch) (hfl : l.stackTraces = false) {D : va_G} {cI cL cZ : ClassId} (hb : Nat) (a1 : Int32) (a2 : Int32) (a3 : Int32) (a4 : Int32) (h_a1 : inR a1 0 11 = true) (h_a2 : inR a2 0 3 = true) (h_a3 : inR a3 0 2 = false) : XM l yX5_ask wsX5_ask ({ frames := 7, cells := 1, slots := 6, locals := 121 } : Room) D (gTys cI cL cZ) [.ref hb, .int a1, .int a2, .int a3, .int a4] [] "java/lang/IllegalArgumentException" := by
  refine XM.ofG cX5_ask 5 (some .int) (by decide +kernel) rfl (Nat.le_of_ble_eq_true rfl) ?_
  intro p e s m below meth c A hA hno hZ hXS B hlocks hK hN
  refine g_iload_n B dX5_ask_0 1 rfl ?_
  refine g_callP (g_runS B (PM.met (k_checkNode_t l (D := D) (cI := cI) (cL := cL) (cZ := cZ) a1 (by first | assumption | exact hy (by assumption) | exact hz (by assumption)))) (gPp.pre (av := [.int a1]) (wc := []) hK hN [] rfl (by decide)) gX5_ask_X5_checkNode rfl kd_X5_checkNode ⟨by decide, by decide⟩ (st := []) rfl (Nat.le_of_ble_eq_true rfl) dX5_ask_1 ⟨by decide, by decide⟩) (fun u hu => ?_)
  refine g_iload_n B dX5_ask_4 2 rfl ?_
  refine g_callP (g_runS B (PM.met (k_checkSlot_t l (D := D) (cI := cI) (cL := cL) (cZ := cZ) a2 (by first | assumption | exact hy (by assumption) | exact hz (by assumption)))) (gPp.pre (av := [.int a2]) (wc := []) hK hN [] rfl (by decide)) gX5_ask_X5_checkSlot rfl kd_X5_checkSlot ⟨by decide, by decide⟩ (st := []) rfl (Nat.le_of_ble_eq_true rfl) dX5_ask_5 ⟨by decide, by decide⟩) (fun u hu => ?_)
  refine g_iload_n B dX5_ask_8 3 rfl ?_
  refine g_iload B dX5_ask_9 4 rfl ?_
  exact g_xout (g_xrunS B (k_checkQuestion_x0 l hfl (D := D) (cI := cI) (cL := cL) (cZ := cZ) a3 a4 (by assumption)) hK hN hZ hXS hA [] rfl (by decide) gX5_ask_X5_checkQuestion rfl kd_X5_checkQuestion ⟨by decide, by decide⟩ (st := []) rfl (Nat.le_of_ble_eq_true rfl) dX5_ask_11 ⟨by decide, by decide⟩) (fun x hx => (hno x hx).elim) hlocks hA [] rfl (by decide) (by decide)

set_option maxHeartbeats 4000000 in
set_option maxRecDepth 100000 in
theorem k_ask_x3 (l : Launch) (hfl : l.stackTraces = false) {D : va_G} {cI cL cZ : ClassId} (hb : Nat) (a1 : Int32) (a2 : Int32) (a3 : Int32) (a4 : Int32) (h_a1 : inR a1 0 11 = true) (h_a2 : inR a2 0 3 = true) (h_a3 : inR a3 0 2 = true) (h_a4 : inR a4 0 9 = false) : XM l yX5_ask wsX5_ask ({ frames := 7, cells := 1, slots := 6, locals := 121 } : Room) D (gTys cI cL cZ) [.ref hb, .int a1, .int a2, .int a3, .int a4] [] "java/lang/IllegalArgumentException" := by
  refine XM.ofG cX5_ask 5 (some .int) (by decide +kernel) rfl (Nat.le_of_ble_eq_true rfl) ?_
  intro p e s m below meth c A hA hno hZ hXS B hlocks hK hN
  refine g_iload_n B dX5_ask_0 1 rfl ?_
  refine g_callP (g_runS B (PM.met (k_checkNode_t l (D := D) (cI := cI) (cL := cL) (cZ := cZ) a1 (by first | assumption | exact hy (by assumption) | exact hz (by assumption)))) (gPp.pre (av := [.int a1]) (wc := []) hK hN [] rfl (by decide)) gX5_ask_X5_checkNode rfl kd_X5_checkNode ⟨by decide, by decide⟩ (st := []) rfl (Nat.le_of_ble_eq_true rfl) dX5_ask_1 ⟨by decide, by decide⟩) (fun u hu => ?_)
  refine g_iload_n B dX5_ask_4 2 rfl ?_
  refine g_callP (g_runS B (PM.met (k_checkSlot_t l (D := D) (cI := cI) (cL := cL) (cZ := cZ) a2 (by first | assumption | exact hy (by assumption) | exact hz (by assumption)))) (gPp.pre (av := [.int a2]) (wc := []) hK hN [] rfl (by decide)) gX5_ask_X5_checkSlot rfl kd_X5_checkSlot ⟨by decide, by decide⟩ (st := []) rfl (Nat.le_of_ble_eq_true rfl) dX5_ask_5 ⟨by decide, by decide⟩) (fun u hu => ?_)
  refine g_iload_n B dX5_ask_8 3 rfl ?_
  refine g_iload B dX5_ask_9 4 rfl ?_
  exact g_xout (g_xrunS B (k_checkQuestion_x1 l hfl (D := D) (cI := cI) (cL := cL) (cZ := cZ) a3 a4 (by assumption) (by assumption)) hK hN hZ hXS hA [] rfl (by decide) gX5_ask_X5_checkQuestion rfl kd_X5_checkQuestion ⟨by decide, by decide⟩ (st := []) rfl (Nat.le_of_ble_eq_true rfl) dX5_ask_11 ⟨by decide, by decide⟩) (fun x hx => (hno x hx).elim) hlocks hA [] rfl (by decide) (by decide)

set_option maxHeartbeats 4000000 in
set_option maxRecDepth 100000 in
theorem k_lead_x0 (l : Launch) (hfl : l.stackTraces = false) {D : va_G} {cI cL cZ : ClassId} (hb : Nat) (a1 : Int32) (a2 : Int32) (a3 : Int32) (h_a1 : inR a1 0 11 = false) : XM l yX5_lead wsX5_lead ({ frames := 7, cells := 1, slots := 6, locals := 120 } : Room) D (gTys cI cL cZ) [.ref hb, .int a1, .int a2, .int a3] [] "java/lang/IndexOutOfBoundsException" := by
  refine XM.ofG cX5_lead 4 (some .int) (by decide +kernel) rfl (Nat.le_of_ble_eq_true rfl) ?_
  intro p e s m below meth c A hA hno hZ hXS B hlocks hK hN
  refine g_iload_n B dX5_lead_0 1 rfl ?_
  exact g_xout (g_xrunS B (k_checkNode_x l hfl (D := D) (cI := cI) (cL := cL) (cZ := cZ) a1 (by first | assumption | exact hy (by assumption) | exact hz (by assumption))) hK hN hZ hXS hA [] rfl (by decide) gX5_lead_X5_checkNode rfl kd_X5_checkNode ⟨by decide, by decide⟩ (st := []) rfl (Nat.le_of_ble_eq_true rfl) dX5_lead_1 ⟨by decide, by decide⟩) (fun x hx => (hno x hx).elim) hlocks hA [] rfl (by decide) (by decide)

set_option maxHeartbeats 4000000 in
set_option maxRecDepth 100000 in
theorem k_lead_x1 (l : Launch) (hfl : l.stackTraces = false) {D : va_G} {cI cL cZ : ClassId} (hb : Nat) (a1 : Int32) (a2 : Int32) (a3 : Int32) (h_a1 : inR a1 0 11 = true) (h2 : ¬ a2 = -1) (h_a2 : inR a2 0 11 = false) : XM l yX5_lead wsX5_lead ({ frames := 7, cells := 1, slots := 6, locals := 120 } : Room) D (gTys cI cL cZ) [.ref hb, .int a1, .int a2, .int a3] [] "java/lang/IndexOutOfBoundsException" := by
  refine XM.ofG cX5_lead 4 (some .int) (by decide +kernel) rfl (Nat.le_of_ble_eq_true rfl) ?_
  intro p e s m below meth c A hA hno hZ hXS B hlocks hK hN
  refine g_iload_n B dX5_lead_0 1 rfl ?_
  refine g_callP (g_runS B (PM.met (k_checkNode_t l (D := D) (cI := cI) (cL := cL) (cZ := cZ) a1 (by first | assumption | exact hy (by assumption) | exact hz (by assumption)))) (gPp.pre (av := [.int a1]) (wc := []) hK hN [] rfl (by decide)) gX5_lead_X5_checkNode rfl kd_X5_checkNode ⟨by decide, by decide⟩ (st := []) rfl (Nat.le_of_ble_eq_true rfl) dX5_lead_1 ⟨by decide, by decide⟩) (fun u hu => ?_)
  refine g_iload_n B dX5_lead_4 2 rfl ?_
  exact g_xout (g_xrunS B (k_checkTarget_x l hfl (D := D) (cI := cI) (cL := cL) (cZ := cZ) a2 (by assumption) (by assumption)) hK hN hZ hXS hA [] rfl (by decide) gX5_lead_X5_checkTarget rfl kd_X5_checkTarget ⟨by decide, by decide⟩ (st := []) rfl (Nat.le_of_ble_eq_true rfl) dX5_lead_5 ⟨by decide, by decide⟩) (fun x hx => (hno x hx).elim) hlocks hA [] rfl (by decide) (by decide)

set_option maxHeartbeats 4000000 in
set_option maxRecDepth 100000 in
theorem k_lead_x2 (l : Launch) (hfl : l.stackTraces = false) {D : va_G} {cI cL cZ : ClassId} (hb : Nat) (a1 : Int32) (a2 : Int32) (a3 : Int32) (h_a1 : inR a1 0 11 = true) (hy : ¬ a2 = -1 → inR a2 0 11 = true) (h3 : ¬ a3 = -1) (h_a3 : inR a3 0 11 = false) : XM l yX5_lead wsX5_lead ({ frames := 7, cells := 1, slots := 6, locals := 120 } : Room) D (gTys cI cL cZ) [.ref hb, .int a1, .int a2, .int a3] [] "java/lang/IndexOutOfBoundsException" := by
  refine XM.ofG cX5_lead 4 (some .int) (by decide +kernel) rfl (Nat.le_of_ble_eq_true rfl) ?_
  intro p e s m below meth c A hA hno hZ hXS B hlocks hK hN
  refine g_iload_n B dX5_lead_0 1 rfl ?_
  refine g_callP (g_runS B (PM.met (k_checkNode_t l (D := D) (cI := cI) (cL := cL) (cZ := cZ) a1 (by first | assumption | exact hy (by assumption) | exact hz (by assumption)))) (gPp.pre (av := [.int a1]) (wc := []) hK hN [] rfl (by decide)) gX5_lead_X5_checkNode rfl kd_X5_checkNode ⟨by decide, by decide⟩ (st := []) rfl (Nat.le_of_ble_eq_true rfl) dX5_lead_1 ⟨by decide, by decide⟩) (fun u hu => ?_)
  refine g_iload_n B dX5_lead_4 2 rfl ?_
  refine g_callP (g_runS B (PM.met (k_checkTarget_t l (D := D) (cI := cI) (cL := cL) (cZ := cZ) a2 (by first | exact hy | exact hz))) (gPp.pre (av := [.int a2]) (wc := []) hK hN [] rfl (by decide)) gX5_lead_X5_checkTarget rfl kd_X5_checkTarget ⟨by decide, by decide⟩ (st := []) rfl (Nat.le_of_ble_eq_true rfl) dX5_lead_5 ⟨by decide, by decide⟩) (fun u hu => ?_)
  refine g_iload_n B dX5_lead_8 3 rfl ?_
  exact g_xout (g_xrunS B (k_checkTarget_x l hfl (D := D) (cI := cI) (cL := cL) (cZ := cZ) a3 (by assumption) (by assumption)) hK hN hZ hXS hA [] rfl (by decide) gX5_lead_X5_checkTarget rfl kd_X5_checkTarget ⟨by decide, by decide⟩ (st := []) rfl (Nat.le_of_ble_eq_true rfl) dX5_lead_9 ⟨by decide, by decide⟩) (fun x hx => (hno x hx).elim) hlocks hA [] rfl (by decide) (by decide)

set_option maxHeartbeats 4000000 in
set_option maxRecDepth 100000 in
theorem k_bad_x0 (l : Launch) (hfl : l.stackTraces = false) {D : va_G} {cI cL cZ : ClassId} (hb : Nat) (a1 : Int32) (a2 : Int32) (h_a1 : inR a1 0 11 = false) : XM l yX5_bad wsX5_bad ({ frames := 7, cells := 1, slots := 6, locals := 120 } : Room) D (gTys cI cL cZ) [.ref hb, .int a1, .int a2] [] "java/lang/IndexOutOfBoundsException" := by
  refine XM.ofG cX5_bad 3 (some .int) (by decide +kernel) rfl (Nat.le_of_ble_eq_true rfl) ?_
  intro p e s m below meth c A hA hno hZ hXS B hlocks hK hN
  refine g_iload_n B dX5_bad_0 1 rfl ?_
  exact g_xout (g_xrunS B (k_checkNode_x l hfl (D := D) (cI := cI) (cL := cL) (cZ := cZ) a1 (by first | assumption | exact hy (by assumption) | exact hz (by assumption))) hK hN hZ hXS hA [] rfl (by decide) gX5_bad_X5_checkNode rfl kd_X5_checkNode ⟨by decide, by decide⟩ (st := []) rfl (Nat.le_of_ble_eq_true rfl) dX5_bad_1 ⟨by decide, by decide⟩) (fun x hx => (hno x hx).elim) hlocks hA [] rfl (by decide) (by decide)

set_option maxHeartbeats 4000000 in
set_option maxRecDepth 100000 in
theorem k_run_x0 (l : Launch) (hfl : l.stackTraces = false) {D : va_G} {cI cL cZ : ClassId} (hb : Nat) (a1 : Int32) (h_a1 : inR a1 0 9999 = false) : XM l yX5_run wsX5_run ({ frames := 7, cells := 1, slots := 6, locals := 120 } : Room) D (gTys cI cL cZ) [.ref hb, .int a1] [] "java/lang/IllegalArgumentException" := by
  refine XM.ofG cX5_run 2 (some .int) (by decide +kernel) rfl (Nat.le_of_ble_eq_true rfl) ?_
  intro p e s m below meth c A hA hno hZ hXS B hlocks hK hN
  refine g_iload_n B dX5_run_0 1 rfl ?_
  exact g_xout (g_xrunS B (k_checkCase_x l hfl (D := D) (cI := cI) (cL := cL) (cZ := cZ) a1 (by first | assumption | exact hy (by assumption) | exact hz (by assumption))) hK hN hZ hXS hA [] rfl (by decide) gX5_run_X5_checkCase rfl kd_X5_checkCase ⟨by decide, by decide⟩ (st := []) rfl (Nat.le_of_ble_eq_true rfl) dX5_run_1 ⟨by decide, by decide⟩) (fun x hx => (hno x hx).elim) hlocks hA [] rfl (by decide) (by decide)

set_option maxHeartbeats 4000000 in
set_option maxRecDepth 100000 in
theorem k_edge_x0 (l : Launch) (hfl : l.stackTraces = false) {D : va_G} {cI cL cZ : ClassId} (hb : Nat) (a1 : Int32) (a2 : Int32) (h_a1 : inR a1 0 9999 = false) : XM l yX5_edge wsX5_edge ({ frames := 7, cells := 1, slots := 6, locals := 120 } : Room) D (gTys cI cL cZ) [.ref hb, .int a1, .int a2] [] "java/lang/IllegalArgumentException" := by
  refine XM.ofG cX5_edge 3 (some .int) (by decide +kernel) rfl (Nat.le_of_ble_eq_true rfl) ?_
  intro p e s m below meth c A hA hno hZ hXS B hlocks hK hN
  refine g_iload_n B dX5_edge_0 1 rfl ?_
  exact g_xout (g_xrunS B (k_checkCase_x l hfl (D := D) (cI := cI) (cL := cL) (cZ := cZ) a1 (by first | assumption | exact hy (by assumption) | exact hz (by assumption))) hK hN hZ hXS hA [] rfl (by decide) gX5_edge_X5_checkCase rfl kd_X5_checkCase ⟨by decide, by decide⟩ (st := []) rfl (Nat.le_of_ble_eq_true rfl) dX5_edge_1 ⟨by decide, by decide⟩) (fun x hx => (hno x hx).elim) hlocks hA [] rfl (by decide) (by decide)

set_option maxHeartbeats 4000000 in
set_option maxRecDepth 100000 in
theorem k_covers_x0 (l : Launch) (hfl : l.stackTraces = false) {D : va_G} {cI cL cZ : ClassId} (hb : Nat) (a1 : Int32) (h_a1 : inR a1 0 9999 = false) : XM l yX5_covers wsX5_covers ({ frames := 7, cells := 1, slots := 6, locals := 120 } : Room) D (gTys cI cL cZ) [.ref hb, .int a1] [] "java/lang/IllegalArgumentException" := by
  refine XM.ofG cX5_covers 2 (some .int) (by decide +kernel) rfl (Nat.le_of_ble_eq_true rfl) ?_
  intro p e s m below meth c A hA hno hZ hXS B hlocks hK hN
  refine g_iload_n B dX5_covers_0 1 rfl ?_
  exact g_xout (g_xrunS B (k_checkCase_x l hfl (D := D) (cI := cI) (cL := cL) (cZ := cZ) a1 (by first | assumption | exact hy (by assumption) | exact hz (by assumption))) hK hN hZ hXS hA [] rfl (by decide) gX5_covers_X5_checkCase rfl kd_X5_checkCase ⟨by decide, by decide⟩ (st := []) rfl (Nat.le_of_ble_eq_true rfl) dX5_covers_1 ⟨by decide, by decide⟩) (fun x hx => (hno x hx).elim) hlocks hA [] rfl (by decide) (by decide)

set_option maxHeartbeats 4000000 in
set_option maxRecDepth 100000 in
theorem k_taste_x0 (l : Launch) (hfl : l.stackTraces = false) {D : va_G} {cI cL cZ : ClassId} (hb : Nat) (a1 : Int32) (h_a1 : inR a1 0 9999 = false) : XM l yX5_taste wsX5_taste ({ frames := 7, cells := 1, slots := 6, locals := 120 } : Room) D (gTys cI cL cZ) [.ref hb, .int a1] [] "java/lang/IllegalArgumentException" := by
  refine XM.ofG cX5_taste 2 (some .int) (by decide +kernel) rfl (Nat.le_of_ble_eq_true rfl) ?_
  intro p e s m below meth c A hA hno hZ hXS B hlocks hK hN
  refine g_iload_n B dX5_taste_0 1 rfl ?_
  exact g_xout (g_xrunS B (k_checkCase_x l hfl (D := D) (cI := cI) (cL := cL) (cZ := cZ) a1 (by first | assumption | exact hy (by assumption) | exact hz (by assumption))) hK hN hZ hXS hA [] rfl (by decide) gX5_taste_X5_checkCase rfl kd_X5_checkCase ⟨by decide, by decide⟩ (st := []) rfl (Nat.le_of_ble_eq_true rfl) dX5_taste_1 ⟨by decide, by decide⟩) (fun x hx => (hno x hx).elim) hlocks hA [] rfl (by decide) (by decide)

set_option maxHeartbeats 4000000 in
set_option maxRecDepth 100000 in
theorem k_shrink_x0 (l : Launch) (hfl : l.stackTraces = false) {D : va_G} {cI cL cZ : ClassId} (hb : Nat) (a1 : Int32) (h_a1 : inR a1 0 9999 = false) : XM l yX5_shrink wsX5_shrink ({ frames := 7, cells := 1, slots := 6, locals := 120 } : Room) D (gTys cI cL cZ) [.ref hb, .int a1] [] "java/lang/IllegalArgumentException" := by
  refine XM.ofG cX5_shrink 3 (some .int) (by decide +kernel) rfl (Nat.le_of_ble_eq_true rfl) ?_
  intro p e s m below meth c A hA hno hZ hXS B hlocks hK hN
  refine g_iload_n B dX5_shrink_0 1 rfl ?_
  exact g_xout (g_xrunS B (k_checkCase_x l hfl (D := D) (cI := cI) (cL := cL) (cZ := cZ) a1 (by first | assumption | exact hy (by assumption) | exact hz (by assumption))) hK hN hZ hXS hA [] rfl (by decide) gX5_shrink_X5_checkCase rfl kd_X5_checkCase ⟨by decide, by decide⟩ (st := []) rfl (Nat.le_of_ble_eq_true rfl) dX5_shrink_1 ⟨by decide, by decide⟩) (fun x hx => (hno x hx).elim) hlocks hA [] rfl (by decide) (by decide)

set_option maxHeartbeats 4000000 in
set_option maxRecDepth 100000 in
theorem k_wouldDrop_x0 (l : Launch) (hfl : l.stackTraces = false) {D : va_G} {cI cL cZ : ClassId} (hb : Nat) (a1 : Int32) (h_a1 : inR a1 0 9999 = false) : XM l yX5_wouldDrop wsX5_wouldDrop ({ frames := 7, cells := 1, slots := 6, locals := 120 } : Room) D (gTys cI cL cZ) [.ref hb, .int a1] [] "java/lang/IllegalArgumentException" := by
  refine XM.ofG cX5_wouldDrop 4 (some .int) (by decide +kernel) rfl (Nat.le_of_ble_eq_true rfl) ?_
  intro p e s m below meth c A hA hno hZ hXS B hlocks hK hN
  refine g_iload_n B dX5_wouldDrop_0 1 rfl ?_
  exact g_xout (g_xrunS B (k_checkCase_x l hfl (D := D) (cI := cI) (cL := cL) (cZ := cZ) a1 (by first | assumption | exact hy (by assumption) | exact hz (by assumption))) hK hN hZ hXS hA [] rfl (by decide) gX5_wouldDrop_X5_checkCase rfl kd_X5_checkCase ⟨by decide, by decide⟩ (st := []) rfl (Nat.le_of_ble_eq_true rfl) dX5_wouldDrop_1 ⟨by decide, by decide⟩) (fun x hx => (hno x hx).elim) hlocks hA [] rfl (by decide) (by decide)

set_option maxHeartbeats 4000000 in
set_option maxRecDepth 100000 in
theorem k_edge_x1 (l : Launch) (hfl : l.stackTraces = false) {D : va_G} {cI cL cZ : ClassId} (hb : Nat) (hp : Nat) (ht : Nat) (hg : Nat) (ha : Nat) (hq : Nat) (p0 : Nat) (p1 : Nat) (p2 : Nat) (p3 : Nat) (p4 : Nat) (t0 : Nat) (fp : Nat → Int32) (ts : Int32) (tr : Int32) (tf : Int64) (t : Nat) (a2 : Int32) (ht1 : t < 10000) (h2 : inR a2 0 0 = false) : XM l yX5_edge wsX5_edge ({ frames := 6, cells := 1, slots := 6, locals := 100 } : Room) D (gTys cI cL cZ) [.ref hb, .int (nI t), .int a2] [(hb, .inr (5, [.ref hp, .ref ht, .ref hg, .ref ha, .ref hq])), (hp, .inr (2, [.ref p0, .ref p1, .ref p2, .ref p3, .ref p4])), (p0, .inl (cI, 12, .inl (fun _ => (0 : Int32)))), (p1, .inl (cI, 12, .inl (fun _ => (0 : Int32)))), (p2, .inl (cI, 12, .inl (fun _ => (0 : Int32)))), (p3, .inl (cI, 24, .inl (fun _ => (-1 : Int32)))), (p4, .inl (cZ, 12, .inl (fun _ => (0 : Int32)))), (ht, .inr (4, [.ref t0, .int ts, .int tr, .long tf])), (t0, .inl (cI, 30, .inl fp))] "java/lang/IndexOutOfBoundsException" := by
  refine XM.ofG cX5_edge 3 (some .int) (by decide +kernel) rfl (Nat.le_of_ble_eq_true rfl) ?_
  intro p e s m below meth c A hA hno hZ hXS B hlocks hK hN
  refine g_iload_n B dX5_edge_0 1 rfl ?_
  refine g_callP (g_runS B (PM.met (k_checkCase_n l (D := D) (cI := cI) (cL := cL) (cZ := cZ) t (by omega))) (gPp.pre (av := [.int (nI t)]) (wc := []) hK hN [] rfl (by decide)) gX5_edge_X5_checkCase rfl kd_X5_checkCase ⟨by decide, by decide⟩ (st := []) rfl (Nat.le_of_ble_eq_true rfl) dX5_edge_1 ⟨by decide, by decide⟩) (fun u hu => ?_)
  refine g_aload_n B dX5_edge_4 0 rfl ?_
  refine g_get (C := RX5) (T := TX5) (N := 5) (ci := 5) B hK hin_X5_edge_RX5 0 rfl rfl 0 (by decide) (List.mem_of_getElem? (i := 3) rfl) rfl (v := .ref hp) rfl dX5_edge_5 ?_
  refine g_iload_n B dX5_edge_8 1 rfl ?_
  refine g_aload_n B dX5_edge_9 0 rfl ?_
  refine g_get (C := RX5) (T := TX5) (N := 5) (ci := 5) B hK hin_X5_edge_RX5 0 rfl rfl 1 (by decide) (List.mem_of_getElem? (i := 4) rfl) rfl (v := .ref ht) rfl dX5_edge_10 ?_
  refine g_callW (w2 := (fun (fp2_2 : Nat → Int32) => [(hb, .inr (5, [.ref hp, .ref ht, .ref hg, .ref ha, .ref hq])), (hp, .inr (2, [.ref p0, .ref p1, .ref p2, .ref p3, .ref p4])), (p0, .inl (cI, 12, .inl (fun _ => (0 : Int32)))), (p1, .inl (cI, 12, .inl (fun _ => (0 : Int32)))), (p2, .inl (cI, 12, .inl (fun _ => (0 : Int32)))), (p3, .inl (cI, 24, .inl (fun _ => (-1 : Int32)))), (p4, .inl (cZ, 12, .inl (fun _ => (0 : Int32)))), (ht, .inr (4, [.ref t0, .int (1 : Int32), .int (1 : Int32), .long (2 : Int64)])), (t0, .inl (cI, 30, .inl fp2_2))])) (g_runV (q0 := 1) (ci := 2) B hK rfl rfl (k_follow l (D := D) (cI := cI) (cL := cL) (cZ := cZ) hp p0 p1 p2 p3 p4 ht t0 fp ts tr tf t (by omega)) (gPw.pre (av := [.ref hp, .int (nI t), .ref ht]) (wc := [(hp, .inr (2, [.ref p0, .ref p1, .ref p2, .ref p3, .ref p4])), (p0, .inl (cI, 12, .inl (fun _ => (0 : Int32)))), (p1, .inl (cI, 12, .inl (fun _ => (0 : Int32)))), (p2, .inl (cI, 12, .inl (fun _ => (0 : Int32)))), (p3, .inl (cI, 24, .inl (fun _ => (-1 : Int32)))), (p4, .inl (cZ, 12, .inl (fun _ => (0 : Int32)))), (ht, .inr (4, [.ref t0, .int ts, .int tr, .long tf])), (t0, .inl (cI, 30, .inl fp))]) hK hN [1, 2, 3, 4, 5, 6, 7, 8] rfl (by decide)) gX5_edge_X2_follow rfl rfl kd_X2_follow ⟨by decide, by decide⟩ (st := []) rfl (Nat.le_of_ble_eq_true rfl) dX5_edge_13 ⟨by decide, by decide⟩) hA (fun _ h => h) [1, 2, 3, 4, 5, 6, 7, 8] [0] (wr := [(hb, .inr (5, [.ref hp, .ref ht, .ref hg, .ref ha, .ref hq]))]) rfl rfl (by decide) (by decide) [0, 1, 2, 3, 4, 5, 6, 7, 8] (by decide) (fun _ => rfl) (fun u hu => ?_)
  obtain ⟨fp2_2, e9⟩ : ∃ z, z = u := ⟨_, rfl⟩; subst e9
  try dsimp only at hu ⊢
  have hu2 := hu
  refine g_iload_n B dX5_edge_16 2 rfl ?_
  refine g_if_lt (tgt := 37) B dX5_edge_17 (by decide) (fun c3 => ?_) (fun c3 => ?_)
  · exact g_throwS B hfl (fun x hx => (hno x hx).elim) hZ hXS hlocks 0 rfl 2 rfl (by decide +kernel) (by decide +kernel) (List.mem_of_getElem? (i := 1) rfl) (List.mem_of_getElem? (i := 2) rfl) hat_X5_edge_93 hat2_RX5_93 hgd_RX5_93_89 dX5_edge_37 dX5_edge_40 dX5_edge_41 dX5_edge_43 dX5_edge_46 (by decide) (Nat.le_of_ble_eq_true rfl) (by decide) (by decide) (by decide) (by decide)
  · refine g_iload_n B dX5_edge_20 2 rfl ?_
    refine g_aload_n B dX5_edge_21 0 rfl ?_
    refine g_get (C := RX5) (T := TX5) (N := 5) (ci := 5) B hK hin_X5_edge_RX5 0 rfl rfl 1 (by decide) (List.mem_of_getElem? (i := 4) rfl) rfl (v := .ref ht) rfl dX5_edge_22 ?_
    refine g_getN (C := RX4) (T := TX4) (N := 4) (ci := 4) B hK hin_X5_edge_RX4 7 rfl rfl 1 (by decide) hN 13 rfl rfl (v := .int (1 : Int32)) rfl dX5_edge_25 ?_
    refine g_icmp_ge (tgt := 37) B dX5_edge_28 (by decide) (fun c4 => ?_) (fun c4 => ?_)
    rotate_left; · exfalso; (simp only [inR, Bool.and_eq_true, Bool.and_eq_false_iff, decide_eq_true_eq, decide_eq_false_iff_not, Int32.not_le, Int32.not_lt, Int32.le_iff_toInt_le, Int32.lt_iff_toInt_lt, i32k] at *; omega)
    exact g_throwS B hfl (fun x hx => (hno x hx).elim) hZ hXS hlocks 0 rfl 2 rfl (by decide +kernel) (by decide +kernel) (List.mem_of_getElem? (i := 1) rfl) (List.mem_of_getElem? (i := 2) rfl) hat_X5_edge_93 hat2_RX5_93 hgd_RX5_93_89 dX5_edge_37 dX5_edge_40 dX5_edge_41 dX5_edge_43 dX5_edge_46 (by decide) (Nat.le_of_ble_eq_true rfl) (by decide) (by decide) (by decide) (by decide)

set_option maxHeartbeats 4000000 in
set_option maxRecDepth 100000 in
theorem k_weights_x0 (l : Launch) (hfl : l.stackTraces = false) {D : va_G} {cI cL cZ : ClassId} (hb : Nat) (a1 : Int32) (a2 : Int32) (a3 : Int32) (a4 : Int32) (h_a1 : inR a1 0 3 = false) : XM l yX5_weights wsX5_weights ({ frames := 7, cells := 1, slots := 6, locals := 120 } : Room) D (gTys cI cL cZ) [.ref hb, .int a1, .int a2, .int a3, .int a4] [] "java/lang/IndexOutOfBoundsException" := by
  refine XM.ofG cX5_weights 6 (some .int) (by decide +kernel) rfl (Nat.le_of_ble_eq_true rfl) ?_
  intro p e s m below meth c A hA hno hZ hXS B hlocks hK hN
  refine g_iload_n B dX5_weights_0 1 rfl ?_
  exact g_xout (g_xrunS B (k_checkSlot_x l hfl (D := D) (cI := cI) (cL := cL) (cZ := cZ) a1 (by first | assumption | exact hy (by assumption) | exact hz (by assumption))) hK hN hZ hXS hA [] rfl (by decide) gX5_weights_X5_checkSlot rfl kd_X5_checkSlot ⟨by decide, by decide⟩ (st := []) rfl (Nat.le_of_ble_eq_true rfl) dX5_weights_1 ⟨by decide, by decide⟩) (fun x hx => (hno x hx).elim) hlocks hA [] rfl (by decide) (by decide)

set_option maxHeartbeats 4000000 in
set_option maxRecDepth 100000 in
theorem k_weights_x1 (l : Launch) (hfl : l.stackTraces = false) {D : va_G} {cI cL cZ : ClassId} (hb : Nat) (a1 : Int32) (a2 : Int32) (a3 : Int32) (a4 : Int32) (h_a1 : inR a1 0 3 = true) (h_a2 : inR a2 0 9 = false) : XM l yX5_weights wsX5_weights ({ frames := 7, cells := 1, slots := 6, locals := 120 } : Room) D (gTys cI cL cZ) [.ref hb, .int a1, .int a2, .int a3, .int a4] [] "java/lang/IllegalArgumentException" := by
  refine XM.ofG cX5_weights 6 (some .int) (by decide +kernel) rfl (Nat.le_of_ble_eq_true rfl) ?_
  intro p e s m below meth c A hA hno hZ hXS B hlocks hK hN
  refine g_iload_n B dX5_weights_0 1 rfl ?_
  refine g_callP (g_runS B (PM.met (k_checkSlot_t l (D := D) (cI := cI) (cL := cL) (cZ := cZ) a1 (by first | assumption | exact hy (by assumption) | exact hz (by assumption)))) (gPp.pre (av := [.int a1]) (wc := []) hK hN [] rfl (by decide)) gX5_weights_X5_checkSlot rfl kd_X5_checkSlot ⟨by decide, by decide⟩ (st := []) rfl (Nat.le_of_ble_eq_true rfl) dX5_weights_1 ⟨by decide, by decide⟩) (fun u hu => ?_)
  refine g_iload_n B dX5_weights_4 2 rfl ?_
  exact g_xout (g_xrunS B (k_checkWeight_x l hfl (D := D) (cI := cI) (cL := cL) (cZ := cZ) a2 (by first | assumption | exact hy (by assumption) | exact hz (by assumption))) hK hN hZ hXS hA [] rfl (by decide) gX5_weights_X5_checkWeight rfl kd_X5_checkWeight ⟨by decide, by decide⟩ (st := []) rfl (Nat.le_of_ble_eq_true rfl) dX5_weights_5 ⟨by decide, by decide⟩) (fun x hx => (hno x hx).elim) hlocks hA [] rfl (by decide) (by decide)

set_option maxHeartbeats 4000000 in
set_option maxRecDepth 100000 in
theorem k_weights_x2 (l : Launch) (hfl : l.stackTraces = false) {D : va_G} {cI cL cZ : ClassId} (hb : Nat) (a1 : Int32) (a2 : Int32) (a3 : Int32) (a4 : Int32) (h_a1 : inR a1 0 3 = true) (h_a2 : inR a2 0 9 = true) (h_a3 : inR a3 0 9 = false) : XM l yX5_weights wsX5_weights ({ frames := 7, cells := 1, slots := 6, locals := 120 } : Room) D (gTys cI cL cZ) [.ref hb, .int a1, .int a2, .int a3, .int a4] [] "java/lang/IllegalArgumentException" := by
  refine XM.ofG cX5_weights 6 (some .int) (by decide +kernel) rfl (Nat.le_of_ble_eq_true rfl) ?_
  intro p e s m below meth c A hA hno hZ hXS B hlocks hK hN
  refine g_iload_n B dX5_weights_0 1 rfl ?_
  refine g_callP (g_runS B (PM.met (k_checkSlot_t l (D := D) (cI := cI) (cL := cL) (cZ := cZ) a1 (by first | assumption | exact hy (by assumption) | exact hz (by assumption)))) (gPp.pre (av := [.int a1]) (wc := []) hK hN [] rfl (by decide)) gX5_weights_X5_checkSlot rfl kd_X5_checkSlot ⟨by decide, by decide⟩ (st := []) rfl (Nat.le_of_ble_eq_true rfl) dX5_weights_1 ⟨by decide, by decide⟩) (fun u hu => ?_)
  refine g_iload_n B dX5_weights_4 2 rfl ?_
  refine g_callP (g_runS B (PM.met (k_checkWeight_t l (D := D) (cI := cI) (cL := cL) (cZ := cZ) a2 (by first | assumption | exact hy (by assumption) | exact hz (by assumption)))) (gPp.pre (av := [.int a2]) (wc := []) hK hN [] rfl (by decide)) gX5_weights_X5_checkWeight rfl kd_X5_checkWeight ⟨by decide, by decide⟩ (st := []) rfl (Nat.le_of_ble_eq_true rfl) dX5_weights_5 ⟨by decide, by decide⟩) (fun u hu => ?_)
  refine g_iload_n B dX5_weights_8 3 rfl ?_
  exact g_xout (g_xrunS B (k_checkWeight_x l hfl (D := D) (cI := cI) (cL := cL) (cZ := cZ) a3 (by first | assumption | exact hy (by assumption) | exact hz (by assumption))) hK hN hZ hXS hA [] rfl (by decide) gX5_weights_X5_checkWeight rfl kd_X5_checkWeight ⟨by decide, by decide⟩ (st := []) rfl (Nat.le_of_ble_eq_true rfl) dX5_weights_9 ⟨by decide, by decide⟩) (fun x hx => (hno x hx).elim) hlocks hA [] rfl (by decide) (by decide)

set_option maxHeartbeats 4000000 in
set_option maxRecDepth 100000 in
theorem k_weights_x3 (l : Launch) (hfl : l.stackTraces = false) {D : va_G} {cI cL cZ : ClassId} (hb : Nat) (a1 : Int32) (a2 : Int32) (a3 : Int32) (a4 : Int32) (h_a1 : inR a1 0 3 = true) (h_a2 : inR a2 0 9 = true) (h_a3 : inR a3 0 9 = true) (h_a4 : inR a4 0 9 = false) : XM l yX5_weights wsX5_weights ({ frames := 7, cells := 1, slots := 6, locals := 120 } : Room) D (gTys cI cL cZ) [.ref hb, .int a1, .int a2, .int a3, .int a4] [] "java/lang/IllegalArgumentException" := by
  refine XM.ofG cX5_weights 6 (some .int) (by decide +kernel) rfl (Nat.le_of_ble_eq_true rfl) ?_
  intro p e s m below meth c A hA hno hZ hXS B hlocks hK hN
  refine g_iload_n B dX5_weights_0 1 rfl ?_
  refine g_callP (g_runS B (PM.met (k_checkSlot_t l (D := D) (cI := cI) (cL := cL) (cZ := cZ) a1 (by first | assumption | exact hy (by assumption) | exact hz (by assumption)))) (gPp.pre (av := [.int a1]) (wc := []) hK hN [] rfl (by decide)) gX5_weights_X5_checkSlot rfl kd_X5_checkSlot ⟨by decide, by decide⟩ (st := []) rfl (Nat.le_of_ble_eq_true rfl) dX5_weights_1 ⟨by decide, by decide⟩) (fun u hu => ?_)
  refine g_iload_n B dX5_weights_4 2 rfl ?_
  refine g_callP (g_runS B (PM.met (k_checkWeight_t l (D := D) (cI := cI) (cL := cL) (cZ := cZ) a2 (by first | assumption | exact hy (by assumption) | exact hz (by assumption)))) (gPp.pre (av := [.int a2]) (wc := []) hK hN [] rfl (by decide)) gX5_weights_X5_checkWeight rfl kd_X5_checkWeight ⟨by decide, by decide⟩ (st := []) rfl (Nat.le_of_ble_eq_true rfl) dX5_weights_5 ⟨by decide, by decide⟩) (fun u hu => ?_)
  refine g_iload_n B dX5_weights_8 3 rfl ?_
  refine g_callP (g_runS B (PM.met (k_checkWeight_t l (D := D) (cI := cI) (cL := cL) (cZ := cZ) a3 (by first | assumption | exact hy (by assumption) | exact hz (by assumption)))) (gPp.pre (av := [.int a3]) (wc := []) hK hN [] rfl (by decide)) gX5_weights_X5_checkWeight rfl kd_X5_checkWeight ⟨by decide, by decide⟩ (st := []) rfl (Nat.le_of_ble_eq_true rfl) dX5_weights_9 ⟨by decide, by decide⟩) (fun u hu => ?_)
  refine g_iload B dX5_weights_12 4 rfl ?_
  exact g_xout (g_xrunS B (k_checkWeight_x l hfl (D := D) (cI := cI) (cL := cL) (cZ := cZ) a4 (by first | assumption | exact hy (by assumption) | exact hz (by assumption))) hK hN hZ hXS hA [] rfl (by decide) gX5_weights_X5_checkWeight rfl kd_X5_checkWeight ⟨by decide, by decide⟩ (st := []) rfl (Nat.le_of_ble_eq_true rfl) dX5_weights_14 ⟨by decide, by decide⟩) (fun x hx => (hno x hx).elim) hlocks hA [] rfl (by decide) (by decide)

set_option maxHeartbeats 4000000 in
set_option maxRecDepth 100000 in
theorem k_draw_x0 (l : Launch) (hfl : l.stackTraces = false) {D : va_G} {cI cL cZ : ClassId} (hb : Nat) (a1 : Int32) (h_a1 : inR a1 0 9999 = false) : XM l yX5_draw wsX5_draw ({ frames := 6, cells := 1, slots := 6, locals := 100 } : Room) D (gTys cI cL cZ) [.ref hb, .int a1] [] "java/lang/IllegalArgumentException" := by
  refine XM.ofG cX5_draw 3 (some .int) (by decide +kernel) rfl (Nat.le_of_ble_eq_true rfl) ?_
  intro p e s m below meth c A hA hno hZ hXS B hlocks hK hN
  refine g_iload_n B dX5_draw_0 1 rfl ?_
  refine g_if_lt (tgt := 11) B dX5_draw_1 (by decide) (fun c1 => ?_) (fun c1 => ?_)
  · exact g_throwS B hfl (fun x hx => (hno x hx).elim) hZ hXS hlocks 1 rfl 0 rfl (by decide +kernel) (by decide +kernel) (List.mem_of_getElem? (i := 1) rfl) (List.mem_of_getElem? (i := 2) rfl) hat_X5_draw_121 hat2_RX5_121 hgd_RX5_121_117 dX5_draw_11 dX5_draw_14 dX5_draw_15 dX5_draw_17 dX5_draw_20 (by decide) (Nat.le_of_ble_eq_true rfl) (by decide) (by decide) (by decide) (by decide)
  · refine g_iload_n B dX5_draw_4 1 rfl ?_
    refine g_sipush (v := (10000 : Int32)) B dX5_draw_5 (by decide) ?_
    refine g_icmp_lt (tgt := 21) B dX5_draw_8 (by decide) (fun c2 => ?_) (fun c2 => ?_)
    · exfalso; (simp only [inR, Bool.and_eq_true, Bool.and_eq_false_iff, decide_eq_true_eq, decide_eq_false_iff_not, Int32.not_le, Int32.not_lt, Int32.le_iff_toInt_le, Int32.lt_iff_toInt_lt, i32k] at *; omega)
    exact g_throwS B hfl (fun x hx => (hno x hx).elim) hZ hXS hlocks 1 rfl 0 rfl (by decide +kernel) (by decide +kernel) (List.mem_of_getElem? (i := 1) rfl) (List.mem_of_getElem? (i := 2) rfl) hat_X5_draw_121 hat2_RX5_121 hgd_RX5_121_117 dX5_draw_11 dX5_draw_14 dX5_draw_15 dX5_draw_17 dX5_draw_20 (by decide) (Nat.le_of_ble_eq_true rfl) (by decide) (by decide) (by decide) (by decide)

set_option maxHeartbeats 4000000 in
set_option maxRecDepth 100000 in
theorem k_mutate_x0 (l : Launch) (hfl : l.stackTraces = false) {D : va_G} {cI cL cZ : ClassId} (hb : Nat) (hp : Nat) (ht : Nat) (hg : Nat) (ha : Nat) (hq : Nat) (a0 : Nat) (a1 : Nat) (a2 : Nat) (a3 : Nat)  : XM l yX5_mutate wsX5_mutate ({ frames := 6, cells := 1, slots := 6, locals := 100 } : Room) D (gTys cI cL cZ) [.ref hb] [(hb, .inr (5, [.ref hp, .ref ht, .ref hg, .ref ha, .ref hq])), (ha, .inr (0, [.ref a0, .ref a1, .ref a2, .ref a3, .int (0 : Int32), .long (0 : Int64)]))] "java/lang/IllegalStateException" := by
  refine XM.ofG cX5_mutate 3 (some .int) (by decide +kernel) rfl (Nat.le_of_ble_eq_true rfl) ?_
  intro p e s m below meth c A hA hno hZ hXS B hlocks hK hN
  refine g_aload_n B dX5_mutate_0 0 rfl ?_
  refine g_get (C := RX5) (T := TX5) (N := 5) (ci := 5) B hK hin_X5_mutate_RX5 0 rfl rfl 3 (by decide) (List.mem_of_getElem? (i := 3) rfl) rfl (v := .ref ha) rfl dX5_mutate_1 ?_
  refine g_callP (g_runV (q0 := 1) (ci := 0) B hK rfl rfl (PM.met (k_mostEnergetic_0 l (D := D) (cI := cI) (cL := cL) (cZ := cZ) ha a0 a1 a2 a3 )) (gPp.pre (av := [.ref ha]) (wc := [(ha, .inr (0, [.ref a0, .ref a1, .ref a2, .ref a3, .int (0 : Int32), .long (0 : Int64)]))]) hK hN [1] rfl (by decide)) gX5_mutate_X0_mostEnergetic rfl rfl kd_X0_mostEnergetic ⟨by decide, by decide⟩ (st := []) rfl (Nat.le_of_ble_eq_true rfl) dX5_mutate_4 ⟨by decide, by decide⟩) (fun u hu => ?_)
  refine g_istore_n (lv' := [(0, .ref hb), (1, .int (-1 : Int32))]) B dX5_mutate_7 rfl (by decide) [1, 0] rfl ?_
  refine g_iload_n B dX5_mutate_8 1 rfl ?_
  refine g_iconst (v := (-1 : Int32)) B dX5_mutate_9 (by decide) ?_
  refine g_icmp_ne (tgt := 23) B dX5_mutate_10 (by decide) (fun c2 => absurd (by decide) c2) (fun _ => ?_)
  exact g_throwS B hfl (fun x hx => (hno x hx).elim) hZ hXS hlocks 2 rfl 1 rfl (by decide +kernel) (by decide +kernel) (List.mem_of_getElem? (i := 1) rfl) (List.mem_of_getElem? (i := 2) rfl) hat_X5_mutate_141 hat2_RX5_141 hgd_RX5_141_137 dX5_mutate_13 dX5_mutate_16 dX5_mutate_17 dX5_mutate_19 dX5_mutate_22 (by decide) (Nat.le_of_ble_eq_true rfl) (by decide) (by decide) (by decide) (by decide)

set_option maxHeartbeats 4000000 in
set_option maxRecDepth 100000 in
theorem k_ofKnown_x0 (l : Launch) (hfl : l.stackTraces = false) {D : va_G} {cI cL cZ : ClassId} (hb : Nat) (hp : Nat) (ht : Nat) (hg : Nat) (ha : Nat) (hq : Nat) (a0 : Nat) (a1 : Nat) (a2 : Nat) (a3 : Nat) (b1 : Int32) (b2 : Int32)  : XM l yX5_ofKnown wsX5_ofKnown ({ frames := 6, cells := 1, slots := 6, locals := 100 } : Room) D (gTys cI cL cZ) [.ref hb, .int b1, .int b2] [(hb, .inr (5, [.ref hp, .ref ht, .ref hg, .ref ha, .ref hq])), (ha, .inr (0, [.ref a0, .ref a1, .ref a2, .ref a3, .int (0 : Int32), .long (0 : Int64)]))] "java/lang/IndexOutOfBoundsException" := by
  refine XM.ofG cX5_ofKnown 3 (some .int) (by decide +kernel) rfl (Nat.le_of_ble_eq_true rfl) ?_
  intro p e s m below meth c A hA hno hZ hXS B hlocks hK hN
  refine g_iload_n B dX5_ofKnown_0 1 rfl ?_
  refine g_if_lt (tgt := 21) B dX5_ofKnown_1 (by decide) (fun c1 => ?_) (fun c1 => ?_)
  · exact g_throwS B hfl (fun x hx => (hno x hx).elim) hZ hXS hlocks 3 rfl 2 rfl (by decide +kernel) (by decide +kernel) (List.mem_of_getElem? (i := 1) rfl) (List.mem_of_getElem? (i := 2) rfl) hat_X5_ofKnown_93 hat2_RX5_93 hgd_RX5_93_89 dX5_ofKnown_21 dX5_ofKnown_24 dX5_ofKnown_25 dX5_ofKnown_27 dX5_ofKnown_30 (by decide) (Nat.le_of_ble_eq_true rfl) (by decide) (by decide) (by decide) (by decide)
  · refine g_iload_n B dX5_ofKnown_4 1 rfl ?_
    refine g_aload_n B dX5_ofKnown_5 0 rfl ?_
    refine g_get (C := RX5) (T := TX5) (N := 5) (ci := 5) B hK hin_X5_ofKnown_RX5 0 rfl rfl 3 (by decide) (List.mem_of_getElem? (i := 5) rfl) rfl (v := .ref ha) rfl dX5_ofKnown_6 ?_
    refine g_getN (C := RX0) (T := TX0) (N := 6) (ci := 0) B hK hin_X5_ofKnown_RX0 1 rfl rfl 4 (by decide) hN 4 rfl rfl (v := .int (0 : Int32)) rfl dX5_ofKnown_9 ?_
    refine g_icmp_ge (tgt := 21) B dX5_ofKnown_12 (by decide) (fun c2 => ?_) (fun c2 => ?_)
    rotate_left; · exfalso; exact absurd (Int32.not_lt.mp c1) c2
    exact g_throwS B hfl (fun x hx => (hno x hx).elim) hZ hXS hlocks 3 rfl 2 rfl (by decide +kernel) (by decide +kernel) (List.mem_of_getElem? (i := 1) rfl) (List.mem_of_getElem? (i := 2) rfl) hat_X5_ofKnown_93 hat2_RX5_93 hgd_RX5_93_89 dX5_ofKnown_21 dX5_ofKnown_24 dX5_ofKnown_25 dX5_ofKnown_27 dX5_ofKnown_30 (by decide) (Nat.le_of_ble_eq_true rfl) (by decide) (by decide) (by decide) (by decide)

set_option maxHeartbeats 4000000 in
set_option maxRecDepth 100000 in
theorem k_ofEdge_x0 (l : Launch) (hfl : l.stackTraces = false) {D : va_G} {cI cL cZ : ClassId} (hb : Nat) (a1 : Int32) (a2 : Int32) (h_a1 : inR a1 0 23 = false) : XM l yX5_ofEdge wsX5_ofEdge ({ frames := 7, cells := 1, slots := 6, locals := 120 } : Room) D (gTys cI cL cZ) [.ref hb, .int a1, .int a2] [] "java/lang/IndexOutOfBoundsException" := by
  refine XM.ofG cX5_ofEdge 5 (some .int) (by decide +kernel) rfl (Nat.le_of_ble_eq_true rfl) ?_
  intro p e s m below meth c A hA hno hZ hXS B hlocks hK hN
  refine g_iload_n B dX5_ofEdge_0 1 rfl ?_
  exact g_xout (g_xrunS B (k_checkEdge_x l hfl (D := D) (cI := cI) (cL := cL) (cZ := cZ) a1 (by first | assumption | exact hy (by assumption) | exact hz (by assumption))) hK hN hZ hXS hA [] rfl (by decide) gX5_ofEdge_X5_checkEdge rfl kd_X5_checkEdge ⟨by decide, by decide⟩ (st := []) rfl (Nat.le_of_ble_eq_true rfl) dX5_ofEdge_1 ⟨by decide, by decide⟩) (fun x hx => (hno x hx).elim) hlocks hA [] rfl (by decide) (by decide)

set_option maxHeartbeats 4000000 in
set_option maxRecDepth 100000 in
theorem k_ofEdge_x1 (l : Launch) (hfl : l.stackTraces = false) {D : va_G} {cI cL cZ : ClassId} (hb : Nat) (a1 : Int32) (a2 : Int32) (h_a1 : inR a1 0 23 = true) (h_a2 : inR a2 0 2 = false) : XM l yX5_ofEdge wsX5_ofEdge ({ frames := 6, cells := 1, slots := 6, locals := 100 } : Room) D (gTys cI cL cZ) [.ref hb, .int a1, .int a2] [] "java/lang/IllegalArgumentException" := by
  refine XM.ofG cX5_ofEdge 5 (some .int) (by decide +kernel) rfl (Nat.le_of_ble_eq_true rfl) ?_
  intro p e s m below meth c A hA hno hZ hXS B hlocks hK hN
  refine g_iload_n B dX5_ofEdge_0 1 rfl ?_
  refine g_callP (g_runS B (PM.met (k_checkEdge_t l (D := D) (cI := cI) (cL := cL) (cZ := cZ) a1 (by first | assumption | exact hy (by assumption) | exact hz (by assumption)))) (gPp.pre (av := [.int a1]) (wc := []) hK hN [] rfl (by decide)) gX5_ofEdge_X5_checkEdge rfl kd_X5_checkEdge ⟨by decide, by decide⟩ (st := []) rfl (Nat.le_of_ble_eq_true rfl) dX5_ofEdge_1 ⟨by decide, by decide⟩) (fun u hu => ?_)
  refine g_iload_n B dX5_ofEdge_4 2 rfl ?_
  refine g_if_lt (tgt := 13) B dX5_ofEdge_5 (by decide) (fun c2 => ?_) (fun c2 => ?_)
  · exact g_throwS B hfl (fun x hx => (hno x hx).elim) hZ hXS hlocks 5 rfl 0 rfl (by decide +kernel) (by decide +kernel) (List.mem_of_getElem? (i := 1) rfl) (List.mem_of_getElem? (i := 2) rfl) hat_X5_ofEdge_121 hat2_RX5_121 hgd_RX5_121_117 dX5_ofEdge_13 dX5_ofEdge_16 dX5_ofEdge_17 dX5_ofEdge_19 dX5_ofEdge_22 (by decide) (Nat.le_of_ble_eq_true rfl) (by decide) (by decide) (by decide) (by decide)
  · refine g_iload_n B dX5_ofEdge_8 2 rfl ?_
    refine g_iconst (v := (2 : Int32)) B dX5_ofEdge_9 (by decide) ?_
    refine g_icmp_le (tgt := 23) B dX5_ofEdge_10 (by decide) (fun c3 => ?_) (fun c3 => ?_)
    · exfalso; (simp only [inR, Bool.and_eq_true, Bool.and_eq_false_iff, decide_eq_true_eq, decide_eq_false_iff_not, Int32.not_le, Int32.not_lt, Int32.le_iff_toInt_le, Int32.lt_iff_toInt_lt, i32k] at *; omega)
    exact g_throwS B hfl (fun x hx => (hno x hx).elim) hZ hXS hlocks 5 rfl 0 rfl (by decide +kernel) (by decide +kernel) (List.mem_of_getElem? (i := 1) rfl) (List.mem_of_getElem? (i := 2) rfl) hat_X5_ofEdge_121 hat2_RX5_121 hgd_RX5_121_117 dX5_ofEdge_13 dX5_ofEdge_16 dX5_ofEdge_17 dX5_ofEdge_19 dX5_ofEdge_22 (by decide) (Nat.le_of_ble_eq_true rfl) (by decide) (by decide) (by decide) (by decide)

set_option maxHeartbeats 4000000 in
set_option maxRecDepth 100000 in
theorem k_many_x0 (l : Launch) (hfl : l.stackTraces = false) {D : va_G} {cI cL cZ : ClassId} (hb : Nat) (a1 : Int32) (h_a1 : inR a1 0 7 = false) : XM l yX5_many wsX5_many ({ frames := 6, cells := 1, slots := 6, locals := 100 } : Room) D (gTys cI cL cZ) [.ref hb, .int a1] [] "java/lang/IllegalArgumentException" := by
  refine XM.ofG cX5_many 2 (some .int) (by decide +kernel) rfl (Nat.le_of_ble_eq_true rfl) ?_
  intro p e s m below meth c A hA hno hZ hXS B hlocks hK hN
  refine g_iload_n B dX5_many_0 1 rfl ?_
  refine g_if_lt (tgt := 10) B dX5_many_1 (by decide) (fun c1 => ?_) (fun c1 => ?_)
  · exact g_throwS B hfl (fun x hx => (hno x hx).elim) hZ hXS hlocks 6 rfl 0 rfl (by decide +kernel) (by decide +kernel) (List.mem_of_getElem? (i := 1) rfl) (List.mem_of_getElem? (i := 2) rfl) hat_X5_many_121 hat2_RX5_121 hgd_RX5_121_117 dX5_many_10 dX5_many_13 dX5_many_14 dX5_many_16 dX5_many_19 (by decide) (Nat.le_of_ble_eq_true rfl) (by decide) (by decide) (by decide) (by decide)
  · refine g_iload_n B dX5_many_4 1 rfl ?_
    refine g_bipush (v := (7 : Int32)) B dX5_many_5 (by decide) ?_
    refine g_icmp_le (tgt := 20) B dX5_many_7 (by decide) (fun c2 => ?_) (fun c2 => ?_)
    · exfalso; (simp only [inR, Bool.and_eq_true, Bool.and_eq_false_iff, decide_eq_true_eq, decide_eq_false_iff_not, Int32.not_le, Int32.not_lt, Int32.le_iff_toInt_le, Int32.lt_iff_toInt_lt, i32k] at *; omega)
    exact g_throwS B hfl (fun x hx => (hno x hx).elim) hZ hXS hlocks 6 rfl 0 rfl (by decide +kernel) (by decide +kernel) (List.mem_of_getElem? (i := 1) rfl) (List.mem_of_getElem? (i := 2) rfl) hat_X5_many_121 hat2_RX5_121 hgd_RX5_121_117 dX5_many_10 dX5_many_13 dX5_many_14 dX5_many_16 dX5_many_19 (by decide) (Nat.le_of_ble_eq_true rfl) (by decide) (by decide) (by decide) (by decide)

set_option maxHeartbeats 4000000 in
set_option maxRecDepth 100000 in
theorem k_shrink_x1 (l : Launch) (hfl : l.stackTraces = false) {D : va_G} {cI cL cZ : ClassId} (hb : Nat) (hp : Nat) (ht : Nat) (hg : Nat) (ha : Nat) (hq : Nat) (p0 : Nat) (p1 : Nat) (p2 : Nat) (p3 : Nat) (p4 : Nat) (t0 : Nat) (fp : Nat → Int32) (ts : Int32) (tr : Int32) (tf : Int64) (t : Nat) (ht1 : t < 10000) : XM l yX5_shrink wsX5_shrink ({ frames := 6, cells := 1, slots := 6, locals := 100 } : Room) D (gTys cI cL cZ) [.ref hb, .int (nI t)] [(hb, .inr (5, [.ref hp, .ref ht, .ref hg, .ref ha, .ref hq])), (hp, .inr (2, [.ref p0, .ref p1, .ref p2, .ref p3, .ref p4])), (p0, .inl (cI, 12, .inl (fun _ => (0 : Int32)))), (p1, .inl (cI, 12, .inl (fun _ => (0 : Int32)))), (p2, .inl (cI, 12, .inl (fun _ => (0 : Int32)))), (p3, .inl (cI, 24, .inl (fun _ => (-1 : Int32)))), (p4, .inl (cZ, 12, .inl (fun _ => (0 : Int32)))), (ht, .inr (4, [.ref t0, .int ts, .int tr, .long tf])), (t0, .inl (cI, 30, .inl fp))] "java/lang/IllegalArgumentException" := by
  refine XM.ofG cX5_shrink 3 (some .int) (by decide +kernel) rfl (Nat.le_of_ble_eq_true rfl) ?_
  intro p e s m below meth c A hA hno hZ hXS B hlocks hK hN
  refine g_iload_n B dX5_shrink_0 1 rfl ?_
  refine g_callP (g_runS B (PM.met (k_checkCase_n l (D := D) (cI := cI) (cL := cL) (cZ := cZ) t (by omega))) (gPp.pre (av := [.int (nI t)]) (wc := []) hK hN [] rfl (by decide)) gX5_shrink_X5_checkCase rfl kd_X5_checkCase ⟨by decide, by decide⟩ (st := []) rfl (Nat.le_of_ble_eq_true rfl) dX5_shrink_1 ⟨by decide, by decide⟩) (fun u hu => ?_)
  refine g_aload_n B dX5_shrink_4 0 rfl ?_
  refine g_iload_n B dX5_shrink_5 1 rfl ?_
  refine g_callW (w2 := (fun (fp2_2 : Nat → Int32) => [(hb, .inr (5, [.ref hp, .ref ht, .ref hg, .ref ha, .ref hq])), (hp, .inr (2, [.ref p0, .ref p1, .ref p2, .ref p3, .ref p4])), (p0, .inl (cI, 12, .inl (fun _ => (0 : Int32)))), (p1, .inl (cI, 12, .inl (fun _ => (0 : Int32)))), (p2, .inl (cI, 12, .inl (fun _ => (0 : Int32)))), (p3, .inl (cI, 24, .inl (fun _ => (-1 : Int32)))), (p4, .inl (cZ, 12, .inl (fun _ => (0 : Int32)))), (ht, .inr (4, [.ref t0, .int (1 : Int32), .int (1 : Int32), .long (2 : Int64)])), (t0, .inl (cI, 30, .inl fp2_2))])) (g_runV (q0 := 0) (ci := 5) B hK rfl rfl (k_resultOf l (D := D) (cI := cI) (cL := cL) (cZ := cZ) hb hg ha hq hp p0 p1 p2 p3 p4 ht t0 fp ts tr tf t (by omega)) (gPw.pre (av := [.ref hb, .int (nI t)]) (wc := [(hb, .inr (5, [.ref hp, .ref ht, .ref hg, .ref ha, .ref hq])), (hp, .inr (2, [.ref p0, .ref p1, .ref p2, .ref p3, .ref p4])), (p0, .inl (cI, 12, .inl (fun _ => (0 : Int32)))), (p1, .inl (cI, 12, .inl (fun _ => (0 : Int32)))), (p2, .inl (cI, 12, .inl (fun _ => (0 : Int32)))), (p3, .inl (cI, 24, .inl (fun _ => (-1 : Int32)))), (p4, .inl (cZ, 12, .inl (fun _ => (0 : Int32)))), (ht, .inr (4, [.ref t0, .int ts, .int tr, .long tf])), (t0, .inl (cI, 30, .inl fp))]) hK hN [0, 1, 2, 3, 4, 5, 6, 7, 8] rfl (by decide)) gX5_shrink_X5_resultOf rfl rfl kd_X5_resultOf ⟨by decide, by decide⟩ (st := []) rfl (Nat.le_of_ble_eq_true rfl) dX5_shrink_6 ⟨by decide, by decide⟩) hA (fun _ h => h) [0, 1, 2, 3, 4, 5, 6, 7, 8] [] (wr := []) rfl rfl (by decide) (by decide) [0, 1, 2, 3, 4, 5, 6, 7, 8] (by decide) (fun _ => rfl) (fun u hu => ?_)
  obtain ⟨fp2_2, e9⟩ : ∃ z, z = u := ⟨_, rfl⟩; subst e9
  try dsimp only at hu ⊢
  refine g_istore_n (lv' := [(0, .ref hb), (1, .int (nI t)), (2, .int (1 : Int32))]) B dX5_shrink_9 rfl (by decide) [1, 2, 0] rfl ?_
  refine g_iload_n B dX5_shrink_10 2 rfl ?_
  refine g_bipush (v := (100 : Int32)) B dX5_shrink_11 (by decide) ?_
  refine g_icmp_ge (tgt := 26) B dX5_shrink_13 (by decide) (fun c3 => absurd c3 (by decide)) (fun _ => ?_)
  exact g_throwS B hfl (fun x hx => (hno x hx).elim) hZ hXS hlocks 7 rfl 0 rfl (by decide +kernel) (by decide +kernel) (List.mem_of_getElem? (i := 1) rfl) (List.mem_of_getElem? (i := 2) rfl) hat_X5_shrink_121 hat2_RX5_121 hgd_RX5_121_117 dX5_shrink_16 dX5_shrink_19 dX5_shrink_20 dX5_shrink_22 dX5_shrink_25 (by decide) (Nat.le_of_ble_eq_true rfl) (by decide) (by decide) (by decide) (by decide)

set_option maxHeartbeats 4000000 in
set_option maxRecDepth 100000 in
theorem k_relation_x0 (l : Launch) (hfl : l.stackTraces = false) {D : va_G} {cI cL cZ : ClassId} (hb : Nat) (a1 : Int32) (a2 : Int32) (a3 : Int32) (h_a1 : inR a1 0 1 = false) : XM l yX5_relation wsX5_relation ({ frames := 6, cells := 1, slots := 6, locals := 100 } : Room) D (gTys cI cL cZ) [.ref hb, .int a1, .int a2, .int a3] [] "java/lang/IllegalArgumentException" := by
  refine XM.ofG cX5_relation 4 (some .int) (by decide +kernel) rfl (Nat.le_of_ble_eq_true rfl) ?_
  intro p e s m below meth c A hA hno hZ hXS B hlocks hK hN
  refine g_iload_n B dX5_relation_0 1 rfl ?_
  refine g_if_eq (tgt := 19) B dX5_relation_1 (by decide) (fun c1 => ?_) (fun c1 => ?_)
  · exfalso; (subst c1; revert h_a1; decide)
  refine g_iload_n B dX5_relation_4 1 rfl ?_
  refine g_iconst (v := (1 : Int32)) B dX5_relation_5 (by decide) ?_
  refine g_icmp_eq (tgt := 19) B dX5_relation_6 (by decide) (fun c2 => ?_) (fun c2 => ?_)
  · exfalso; (subst c2; revert h_a1; decide)
  exact g_throwS B hfl (fun x hx => (hno x hx).elim) hZ hXS hlocks 8 rfl 0 rfl (by decide +kernel) (by decide +kernel) (List.mem_of_getElem? (i := 1) rfl) (List.mem_of_getElem? (i := 2) rfl) hat_X5_relation_121 hat2_RX5_121 hgd_RX5_121_117 dX5_relation_9 dX5_relation_12 dX5_relation_13 dX5_relation_15 dX5_relation_18 (by decide) (Nat.le_of_ble_eq_true rfl) (by decide) (by decide) (by decide) (by decide)

set_option maxHeartbeats 4000000 in
set_option maxRecDepth 100000 in
theorem k_relation_x1 (l : Launch) (hfl : l.stackTraces = false) {D : va_G} {cI cL cZ : ClassId} (hb : Nat) (a2 : Int32)  : XM l yX5_relation wsX5_relation ({ frames := 6, cells := 1, slots := 6, locals := 100 } : Room) D (gTys cI cL cZ) [.ref hb, .int (0 : Int32), .int a2, .int a2] [] "java/lang/IllegalArgumentException" := by
  refine XM.ofG cX5_relation 4 (some .int) (by decide +kernel) rfl (Nat.le_of_ble_eq_true rfl) ?_
  intro p e s m below meth c A hA hno hZ hXS B hlocks hK hN
  refine g_iload_n B dX5_relation_0 1 rfl ?_
  refine g_if_eq (tgt := 19) B dX5_relation_1 (by decide) (fun _ => ?_) (fun c1 => absurd (by decide) c1)
  refine g_iload_n B dX5_relation_19 1 rfl ?_
  refine g_if_ne (tgt := 38) B dX5_relation_20 (by decide) (fun c2 => absurd (by decide) c2) (fun _ => ?_)
  refine g_iload_n B dX5_relation_23 3 rfl ?_
  refine g_iload_n B dX5_relation_24 2 rfl ?_
  refine g_icmp_ne (tgt := 38) B dX5_relation_25 (by decide) (fun c3 => ?_) (fun c3 => ?_)
  · exfalso; exact c3 rfl
  exact g_throwS B hfl (fun x hx => (hno x hx).elim) hZ hXS hlocks 9 rfl 0 rfl (by decide +kernel) (by decide +kernel) (List.mem_of_getElem? (i := 1) rfl) (List.mem_of_getElem? (i := 2) rfl) hat_X5_relation_121 hat2_RX5_121 hgd_RX5_121_117 dX5_relation_28 dX5_relation_31 dX5_relation_32 dX5_relation_34 dX5_relation_37 (by decide) (Nat.le_of_ble_eq_true rfl) (by decide) (by decide) (by decide) (by decide)

set_option maxHeartbeats 4000000 in
set_option maxRecDepth 100000 in
theorem k_relation_x2 (l : Launch) (hfl : l.stackTraces = false) {D : va_G} {cI cL cZ : ClassId} (hb : Nat) (a2 : Int32) (a3 : Int32) (h0 : ¬ a2 = a3) (h_a2 : inR a2 0 3 = false) : XM l yX5_relation wsX5_relation ({ frames := 7, cells := 1, slots := 6, locals := 120 } : Room) D (gTys cI cL cZ) [.ref hb, .int (0 : Int32), .int a2, .int a3] [] "java/lang/IndexOutOfBoundsException" := by
  refine XM.ofG cX5_relation 4 (some .int) (by decide +kernel) rfl (Nat.le_of_ble_eq_true rfl) ?_
  intro p e s m below meth c A hA hno hZ hXS B hlocks hK hN
  refine g_iload_n B dX5_relation_0 1 rfl ?_
  refine g_if_eq (tgt := 19) B dX5_relation_1 (by decide) (fun _ => ?_) (fun c1 => absurd (by decide) c1)
  refine g_iload_n B dX5_relation_19 1 rfl ?_
  refine g_if_ne (tgt := 38) B dX5_relation_20 (by decide) (fun c2 => absurd (by decide) c2) (fun _ => ?_)
  refine g_iload_n B dX5_relation_23 3 rfl ?_
  refine g_iload_n B dX5_relation_24 2 rfl ?_
  refine g_icmp_ne (tgt := 38) B dX5_relation_25 (by decide) (fun c3 => ?_) (fun c3 => ?_)
  rotate_left; · exfalso; exact h0 c3.symm
  refine g_iload_n B dX5_relation_38 2 rfl ?_
  exact g_xout (g_xrunS B (k_checkSlot_x l hfl (D := D) (cI := cI) (cL := cL) (cZ := cZ) a2 (by first | assumption | exact hy (by assumption) | exact hz (by assumption))) hK hN hZ hXS hA [] rfl (by decide) gX5_relation_X5_checkSlot rfl kd_X5_checkSlot ⟨by decide, by decide⟩ (st := []) rfl (Nat.le_of_ble_eq_true rfl) dX5_relation_39 ⟨by decide, by decide⟩) (fun x hx => (hno x hx).elim) hlocks hA [] rfl (by decide) (by decide)

set_option maxHeartbeats 4000000 in
set_option maxRecDepth 100000 in
theorem k_relation_x3 (l : Launch) (hfl : l.stackTraces = false) {D : va_G} {cI cL cZ : ClassId} (hb : Nat) (a2 : Int32) (a3 : Int32) (h0 : ¬ a2 = a3) (h_a2 : inR a2 0 3 = true) (h_a3 : inR a3 0 3 = false) : XM l yX5_relation wsX5_relation ({ frames := 7, cells := 1, slots := 6, locals := 120 } : Room) D (gTys cI cL cZ) [.ref hb, .int (0 : Int32), .int a2, .int a3] [] "java/lang/IndexOutOfBoundsException" := by
  refine XM.ofG cX5_relation 4 (some .int) (by decide +kernel) rfl (Nat.le_of_ble_eq_true rfl) ?_
  intro p e s m below meth c A hA hno hZ hXS B hlocks hK hN
  refine g_iload_n B dX5_relation_0 1 rfl ?_
  refine g_if_eq (tgt := 19) B dX5_relation_1 (by decide) (fun _ => ?_) (fun c1 => absurd (by decide) c1)
  refine g_iload_n B dX5_relation_19 1 rfl ?_
  refine g_if_ne (tgt := 38) B dX5_relation_20 (by decide) (fun c2 => absurd (by decide) c2) (fun _ => ?_)
  refine g_iload_n B dX5_relation_23 3 rfl ?_
  refine g_iload_n B dX5_relation_24 2 rfl ?_
  refine g_icmp_ne (tgt := 38) B dX5_relation_25 (by decide) (fun c3 => ?_) (fun c3 => ?_)
  rotate_left; · exfalso; exact h0 c3.symm
  refine g_iload_n B dX5_relation_38 2 rfl ?_
  refine g_callP (g_runS B (PM.met (k_checkSlot_t l (D := D) (cI := cI) (cL := cL) (cZ := cZ) a2 (by first | assumption | exact hy (by assumption) | exact hz (by assumption)))) (gPp.pre (av := [.int a2]) (wc := []) hK hN [] rfl (by decide)) gX5_relation_X5_checkSlot rfl kd_X5_checkSlot ⟨by decide, by decide⟩ (st := []) rfl (Nat.le_of_ble_eq_true rfl) dX5_relation_39 ⟨by decide, by decide⟩) (fun u hu => ?_)
  refine g_iload_n B dX5_relation_42 1 rfl ?_
  refine g_if_ne (tgt := 50) B dX5_relation_43 (by decide) (fun c5 => absurd (by decide) c5) (fun _ => ?_)
  refine g_iload_n B dX5_relation_46 3 rfl ?_
  exact g_xout (g_xrunS B (k_checkSlot_x l hfl (D := D) (cI := cI) (cL := cL) (cZ := cZ) a3 (by first | assumption | exact hy (by assumption) | exact hz (by assumption))) hK hN hZ hXS hA [] rfl (by decide) gX5_relation_X5_checkSlot rfl kd_X5_checkSlot ⟨by decide, by decide⟩ (st := []) rfl (Nat.le_of_ble_eq_true rfl) dX5_relation_47 ⟨by decide, by decide⟩) (fun x hx => (hno x hx).elim) hlocks hA [] rfl (by decide) (by decide)

set_option maxHeartbeats 4000000 in
set_option maxRecDepth 100000 in
theorem k_relation_x4 (l : Launch) (hfl : l.stackTraces = false) {D : va_G} {cI cL cZ : ClassId} (hb : Nat) (a2 : Int32) (a3 : Int32) (h_a2 : inR a2 0 3 = false) : XM l yX5_relation wsX5_relation ({ frames := 7, cells := 1, slots := 6, locals := 120 } : Room) D (gTys cI cL cZ) [.ref hb, .int (1 : Int32), .int a2, .int a3] [] "java/lang/IndexOutOfBoundsException" := by
  refine XM.ofG cX5_relation 4 (some .int) (by decide +kernel) rfl (Nat.le_of_ble_eq_true rfl) ?_
  intro p e s m below meth c A hA hno hZ hXS B hlocks hK hN
  refine g_iload_n B dX5_relation_0 1 rfl ?_
  refine g_if_eq (tgt := 19) B dX5_relation_1 (by decide) (fun c1 => absurd c1 (by decide)) (fun _ => ?_)
  refine g_iload_n B dX5_relation_4 1 rfl ?_
  refine g_iconst (v := (1 : Int32)) B dX5_relation_5 (by decide) ?_
  refine g_icmp_eq (tgt := 19) B dX5_relation_6 (by decide) (fun _ => ?_) (fun c2 => absurd (by decide) c2)
  refine g_iload_n B dX5_relation_19 1 rfl ?_
  refine g_if_ne (tgt := 38) B dX5_relation_20 (by decide) (fun _ => ?_) (fun c3 => absurd c3 (by decide))
  refine g_iload_n B dX5_relation_38 2 rfl ?_
  exact g_xout (g_xrunS B (k_checkSlot_x l hfl (D := D) (cI := cI) (cL := cL) (cZ := cZ) a2 (by first | assumption | exact hy (by assumption) | exact hz (by assumption))) hK hN hZ hXS hA [] rfl (by decide) gX5_relation_X5_checkSlot rfl kd_X5_checkSlot ⟨by decide, by decide⟩ (st := []) rfl (Nat.le_of_ble_eq_true rfl) dX5_relation_39 ⟨by decide, by decide⟩) (fun x hx => (hno x hx).elim) hlocks hA [] rfl (by decide) (by decide)

set_option maxHeartbeats 4000000 in
set_option maxRecDepth 100000 in
theorem k_breaks_x0 (l : Launch) (hfl : l.stackTraces = false) {D : va_G} {cI cL cZ : ClassId} (hb : Nat) (hp : Nat) (ht : Nat) (hg : Nat) (ha : Nat) (hq : Nat) (r0 : Nat) (r1 : Nat) (r2 : Nat) (a1 : Int32) (a2 : Int32)  : XM l yX5_breaks wsX5_breaks ({ frames := 7, cells := 1, slots := 6, locals := 121 } : Room) D (gTys cI cL cZ) [.ref hb, .int a1, .int a2] [(hb, .inr (5, [.ref hp, .ref ht, .ref hg, .ref ha, .ref hq])), (hq, .inr (3, [.ref r0, .ref r1, .ref r2, .int (0 : Int32)]))] "java/lang/IndexOutOfBoundsException" := by
  refine XM.ofG cX5_breaks 3 (some .boolean) (by decide +kernel) rfl (Nat.le_of_ble_eq_true rfl) ?_
  intro p e s m below meth c A hA hno hZ hXS B hlocks hK hN
  refine g_aload_n B dX5_breaks_0 0 rfl ?_
  refine g_iload_n B dX5_breaks_1 1 rfl ?_
  exact g_xout (g_xrunV (q0 := 0) (ci := 5) B (k_checkRelation_x l hfl (D := D) (cI := cI) (cL := cL) (cZ := cZ) hb hp ht hg ha hq r0 r1 r2 a1 ) hK rfl rfl hN hZ hXS hA [0, 1] rfl (by decide) gX5_breaks_X5_checkRelation rfl rfl kd_X5_checkRelation ⟨by decide, by decide⟩ (st := []) rfl (Nat.le_of_ble_eq_true rfl) dX5_breaks_2 ⟨by decide, by decide⟩) (fun x hx => (hno x hx).elim) hlocks hA [0, 1] rfl (by decide) (by decide)

set_option maxHeartbeats 4000000 in
set_option maxRecDepth 100000 in
theorem k_brokenBy_x0 (l : Launch) (hfl : l.stackTraces = false) {D : va_G} {cI cL cZ : ClassId} (hb : Nat) (hp : Nat) (ht : Nat) (hg : Nat) (ha : Nat) (hq : Nat) (r0 : Nat) (r1 : Nat) (r2 : Nat) (a1 : Int32)  : XM l yX5_brokenBy wsX5_brokenBy ({ frames := 7, cells := 1, slots := 6, locals := 121 } : Room) D (gTys cI cL cZ) [.ref hb, .int a1] [(hb, .inr (5, [.ref hp, .ref ht, .ref hg, .ref ha, .ref hq])), (hq, .inr (3, [.ref r0, .ref r1, .ref r2, .int (0 : Int32)]))] "java/lang/IndexOutOfBoundsException" := by
  refine XM.ofG cX5_brokenBy 4 (some .int) (by decide +kernel) rfl (Nat.le_of_ble_eq_true rfl) ?_
  intro p e s m below meth c A hA hno hZ hXS B hlocks hK hN
  refine g_aload_n B dX5_brokenBy_0 0 rfl ?_
  refine g_iload_n B dX5_brokenBy_1 1 rfl ?_
  exact g_xout (g_xrunV (q0 := 0) (ci := 5) B (k_checkRelation_x l hfl (D := D) (cI := cI) (cL := cL) (cZ := cZ) hb hp ht hg ha hq r0 r1 r2 a1 ) hK rfl rfl hN hZ hXS hA [0, 1] rfl (by decide) gX5_brokenBy_X5_checkRelation rfl rfl kd_X5_checkRelation ⟨by decide, by decide⟩ (st := []) rfl (Nat.le_of_ble_eq_true rfl) dX5_brokenBy_2 ⟨by decide, by decide⟩) (fun x hx => (hno x hx).elim) hlocks hA [0, 1] rfl (by decide) (by decide)

set_option maxHeartbeats 4000000 in
set_option maxRecDepth 100000 in
theorem k_otherwise_x0 (l : Launch) (hfl : l.stackTraces = false) {D : va_G} {cI cL cZ : ClassId} (hb : Nat) (a1 : Int32) (a2 : Int32) (a3 : Int32) (h_a1 : inR a1 0 11 = false) : XM l yX5_otherwise wsX5_otherwise ({ frames := 7, cells := 1, slots := 6, locals := 120 } : Room) D (gTys cI cL cZ) [.ref hb, .int a1, .int a2, .int a3] [] "java/lang/IndexOutOfBoundsException" := by
  refine XM.ofG cX5_otherwise 9 (some .int) (by decide +kernel) rfl (Nat.le_of_ble_eq_true rfl) ?_
  intro p e s m below meth c A hA hno hZ hXS B hlocks hK hN
  refine g_iload_n B dX5_otherwise_0 1 rfl ?_
  exact g_xout (g_xrunS B (k_checkNode_x l hfl (D := D) (cI := cI) (cL := cL) (cZ := cZ) a1 (by first | assumption | exact hy (by assumption) | exact hz (by assumption))) hK hN hZ hXS hA [] rfl (by decide) gX5_otherwise_X5_checkNode rfl kd_X5_checkNode ⟨by decide, by decide⟩ (st := []) rfl (Nat.le_of_ble_eq_true rfl) dX5_otherwise_1 ⟨by decide, by decide⟩) (fun x hx => (hno x hx).elim) hlocks hA [] rfl (by decide) (by decide)

set_option maxHeartbeats 4000000 in
set_option maxRecDepth 100000 in
theorem k_otherwise_x1 (l : Launch) (hfl : l.stackTraces = false) {D : va_G} {cI cL cZ : ClassId} (hb : Nat) (a1 : Int32) (a2 : Int32) (a3 : Int32) (h_a1 : inR a1 0 11 = true) (h_a2 : inR a2 0 2 = false) : XM l yX5_otherwise wsX5_otherwise ({ frames := 7, cells := 1, slots := 6, locals := 121 } : Room) D (gTys cI cL cZ) [.ref hb, .int a1, .int a2, .int a3] [] "java/lang/IllegalArgumentException" := by
  refine XM.ofG cX5_otherwise 9 (some .int) (by decide +kernel) rfl (Nat.le_of_ble_eq_true rfl) ?_
  intro p e s m below meth c A hA hno hZ hXS B hlocks hK hN
  refine g_iload_n B dX5_otherwise_0 1 rfl ?_
  refine g_callP (g_runS B (PM.met (k_checkNode_t l (D := D) (cI := cI) (cL := cL) (cZ := cZ) a1 (by first | assumption | exact hy (by assumption) | exact hz (by assumption)))) (gPp.pre (av := [.int a1]) (wc := []) hK hN [] rfl (by decide)) gX5_otherwise_X5_checkNode rfl kd_X5_checkNode ⟨by decide, by decide⟩ (st := []) rfl (Nat.le_of_ble_eq_true rfl) dX5_otherwise_1 ⟨by decide, by decide⟩) (fun u hu => ?_)
  refine g_iload_n B dX5_otherwise_4 2 rfl ?_
  refine g_iload_n B dX5_otherwise_5 3 rfl ?_
  exact g_xout (g_xrunS B (k_checkQuestion_x0 l hfl (D := D) (cI := cI) (cL := cL) (cZ := cZ) a2 a3 (by assumption)) hK hN hZ hXS hA [] rfl (by decide) gX5_otherwise_X5_checkQuestion rfl kd_X5_checkQuestion ⟨by decide, by decide⟩ (st := []) rfl (Nat.le_of_ble_eq_true rfl) dX5_otherwise_6 ⟨by decide, by decide⟩) (fun x hx => (hno x hx).elim) hlocks hA [] rfl (by decide) (by decide)

set_option maxHeartbeats 4000000 in
set_option maxRecDepth 100000 in
theorem k_otherwise_x2 (l : Launch) (hfl : l.stackTraces = false) {D : va_G} {cI cL cZ : ClassId} (hb : Nat) (a1 : Int32) (a2 : Int32) (a3 : Int32) (h_a1 : inR a1 0 11 = true) (h_a2 : inR a2 0 2 = true) (h_a3 : inR a3 0 9 = false) : XM l yX5_otherwise wsX5_otherwise ({ frames := 7, cells := 1, slots := 6, locals := 121 } : Room) D (gTys cI cL cZ) [.ref hb, .int a1, .int a2, .int a3] [] "java/lang/IllegalArgumentException" := by
  refine XM.ofG cX5_otherwise 9 (some .int) (by decide +kernel) rfl (Nat.le_of_ble_eq_true rfl) ?_
  intro p e s m below meth c A hA hno hZ hXS B hlocks hK hN
  refine g_iload_n B dX5_otherwise_0 1 rfl ?_
  refine g_callP (g_runS B (PM.met (k_checkNode_t l (D := D) (cI := cI) (cL := cL) (cZ := cZ) a1 (by first | assumption | exact hy (by assumption) | exact hz (by assumption)))) (gPp.pre (av := [.int a1]) (wc := []) hK hN [] rfl (by decide)) gX5_otherwise_X5_checkNode rfl kd_X5_checkNode ⟨by decide, by decide⟩ (st := []) rfl (Nat.le_of_ble_eq_true rfl) dX5_otherwise_1 ⟨by decide, by decide⟩) (fun u hu => ?_)
  refine g_iload_n B dX5_otherwise_4 2 rfl ?_
  refine g_iload_n B dX5_otherwise_5 3 rfl ?_
  exact g_xout (g_xrunS B (k_checkQuestion_x1 l hfl (D := D) (cI := cI) (cL := cL) (cZ := cZ) a2 a3 (by assumption) (by assumption)) hK hN hZ hXS hA [] rfl (by decide) gX5_otherwise_X5_checkQuestion rfl kd_X5_checkQuestion ⟨by decide, by decide⟩ (st := []) rfl (Nat.le_of_ble_eq_true rfl) dX5_otherwise_6 ⟨by decide, by decide⟩) (fun x hx => (hno x hx).elim) hlocks hA [] rfl (by decide) (by decide)

set_option maxHeartbeats 4000000 in
set_option maxRecDepth 100000 in
theorem k_smallest_x0 (l : Launch) (hfl : l.stackTraces = false) {D : va_G} {cI cL cZ : ClassId} (hb : Nat) (a1 : Int32) (a2 : Int32) (h_a1 : inR a1 0 23 = false) : XM l yX5_smallest wsX5_smallest ({ frames := 7, cells := 1, slots := 6, locals := 120 } : Room) D (gTys cI cL cZ) [.ref hb, .int a1, .int a2] [] "java/lang/IndexOutOfBoundsException" := by
  refine XM.ofG cX5_smallest 5 (some .int) (by decide +kernel) rfl (Nat.le_of_ble_eq_true rfl) ?_
  intro p e s m below meth c A hA hno hZ hXS B hlocks hK hN
  refine g_iload_n B dX5_smallest_0 1 rfl ?_
  exact g_xout (g_xrunS B (k_checkEdge_x l hfl (D := D) (cI := cI) (cL := cL) (cZ := cZ) a1 (by first | assumption | exact hy (by assumption) | exact hz (by assumption))) hK hN hZ hXS hA [] rfl (by decide) gX5_smallest_X5_checkEdge rfl kd_X5_checkEdge ⟨by decide, by decide⟩ (st := []) rfl (Nat.le_of_ble_eq_true rfl) dX5_smallest_1 ⟨by decide, by decide⟩) (fun x hx => (hno x hx).elim) hlocks hA [] rfl (by decide) (by decide)

set_option maxHeartbeats 4000000 in
set_option maxRecDepth 100000 in
theorem k_smallest_x1 (l : Launch) (hfl : l.stackTraces = false) {D : va_G} {cI cL cZ : ClassId} (hb : Nat) (a1 : Int32) (a2 : Int32) (h_a1 : inR a1 0 23 = true) (h_a2 : inR a2 0 9999 = false) : XM l yX5_smallest wsX5_smallest ({ frames := 7, cells := 1, slots := 6, locals := 120 } : Room) D (gTys cI cL cZ) [.ref hb, .int a1, .int a2] [] "java/lang/IllegalArgumentException" := by
  refine XM.ofG cX5_smallest 5 (some .int) (by decide +kernel) rfl (Nat.le_of_ble_eq_true rfl) ?_
  intro p e s m below meth c A hA hno hZ hXS B hlocks hK hN
  refine g_iload_n B dX5_smallest_0 1 rfl ?_
  refine g_callP (g_runS B (PM.met (k_checkEdge_t l (D := D) (cI := cI) (cL := cL) (cZ := cZ) a1 (by first | assumption | exact hy (by assumption) | exact hz (by assumption)))) (gPp.pre (av := [.int a1]) (wc := []) hK hN [] rfl (by decide)) gX5_smallest_X5_checkEdge rfl kd_X5_checkEdge ⟨by decide, by decide⟩ (st := []) rfl (Nat.le_of_ble_eq_true rfl) dX5_smallest_1 ⟨by decide, by decide⟩) (fun u hu => ?_)
  refine g_iload_n B dX5_smallest_4 2 rfl ?_
  exact g_xout (g_xrunS B (k_checkCase_x l hfl (D := D) (cI := cI) (cL := cL) (cZ := cZ) a2 (by first | assumption | exact hy (by assumption) | exact hz (by assumption))) hK hN hZ hXS hA [] rfl (by decide) gX5_smallest_X5_checkCase rfl kd_X5_checkCase ⟨by decide, by decide⟩ (st := []) rfl (Nat.le_of_ble_eq_true rfl) dX5_smallest_5 ⟨by decide, by decide⟩) (fun x hx => (hno x hx).elim) hlocks hA [] rfl (by decide) (by decide)

set_option maxHeartbeats 4000000 in
set_option maxRecDepth 100000 in
theorem k_ahead_x0 (l : Launch) (hfl : l.stackTraces = false) {D : va_G} {cI cL cZ : ClassId} (hb : Nat) (a1 : Int32) (h_a1 : inR a1 1 50 = false) : XM l yX5_ahead wsX5_ahead ({ frames := 6, cells := 1, slots := 6, locals := 100 } : Room) D (gTys cI cL cZ) [.ref hb, .int a1] [] "java/lang/IllegalArgumentException" := by
  refine XM.ofG cX5_ahead 6 (some .int) (by decide +kernel) rfl (Nat.le_of_ble_eq_true rfl) ?_
  intro p e s m below meth c A hA hno hZ hXS B hlocks hK hN
  refine g_iload_n B dX5_ahead_0 1 rfl ?_
  refine g_iconst (v := (1 : Int32)) B dX5_ahead_1 (by decide) ?_
  refine g_icmp_lt (tgt := 11) B dX5_ahead_2 (by decide) (fun c1 => ?_) (fun c1 => ?_)
  · exact g_throwSW B hfl (fun x hx => (hno x hx).elim) hZ hXS hlocks 11 rfl 0 rfl (by decide +kernel) (by decide +kernel) (List.mem_of_getElem? (i := 1) rfl) (List.mem_of_getElem? (i := 2) rfl) hat_X5_ahead_121 hat2_RX5_121 hgd_RX5_121_117 dX5_ahead_11 dX5_ahead_14 dX5_ahead_15 dX5_ahead_18 dX5_ahead_21 (by decide) (Nat.le_of_ble_eq_true rfl) (by decide) (by decide) (by decide) (by decide)
  · refine g_iload_n B dX5_ahead_5 1 rfl ?_
    refine g_bipush (v := (50 : Int32)) B dX5_ahead_6 (by decide) ?_
    refine g_icmp_le (tgt := 22) B dX5_ahead_8 (by decide) (fun c2 => ?_) (fun c2 => ?_)
    · exfalso; (simp only [inR, Bool.and_eq_true, Bool.and_eq_false_iff, decide_eq_true_eq, decide_eq_false_iff_not, Int32.not_le, Int32.not_lt, Int32.le_iff_toInt_le, Int32.lt_iff_toInt_lt, i32k] at *; omega)
    exact g_throwSW B hfl (fun x hx => (hno x hx).elim) hZ hXS hlocks 11 rfl 0 rfl (by decide +kernel) (by decide +kernel) (List.mem_of_getElem? (i := 1) rfl) (List.mem_of_getElem? (i := 2) rfl) hat_X5_ahead_121 hat2_RX5_121 hgd_RX5_121_117 dX5_ahead_11 dX5_ahead_14 dX5_ahead_15 dX5_ahead_18 dX5_ahead_21 (by decide) (Nat.le_of_ble_eq_true rfl) (by decide) (by decide) (by decide) (by decide)

