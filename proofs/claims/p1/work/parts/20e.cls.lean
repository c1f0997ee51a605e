/-! the class on a fresh object: its face, ordinary calls -/
theorem kd_X0_allKnown : yX0_allKnown.cls ≠ "java/lang/invoke/MethodHandle" ∧ yX0_allKnown.cls ≠ "java/lang/invoke/VarHandle" ∧ (parseMethodDescriptor yX0_allKnown.desc).map (fun d => d.parameters.length) = some 0 := by decide +kernel
theorem kd_X0_coverersOf : yX0_coverersOf.cls ≠ "java/lang/invoke/MethodHandle" ∧ yX0_coverersOf.cls ≠ "java/lang/invoke/VarHandle" ∧ (parseMethodDescriptor yX0_coverersOf.desc).map (fun d => d.parameters.length) = some 1 := by decide +kernel
theorem kd_X1_nextCase : yX1_nextCase.cls ≠ "java/lang/invoke/MethodHandle" ∧ yX1_nextCase.cls ≠ "java/lang/invoke/VarHandle" ∧ (parseMethodDescriptor yX1_nextCase.desc).map (fun d => d.parameters.length) = some 0 := by decide +kernel
theorem kd_X1_setWeights : yX1_setWeights.cls ≠ "java/lang/invoke/MethodHandle" ∧ yX1_setWeights.cls ≠ "java/lang/invoke/VarHandle" ∧ (parseMethodDescriptor yX1_setWeights.desc).map (fun d => d.parameters.length) = some 4 := by decide +kernel
theorem kd_X2_reachableNodes : yX2_reachableNodes.cls ≠ "java/lang/invoke/MethodHandle" ∧ yX2_reachableNodes.cls ≠ "java/lang/invoke/VarHandle" ∧ (parseMethodDescriptor yX2_reachableNodes.desc).map (fun d => d.parameters.length) = some 0 := by decide +kernel
theorem kd_X2_setBad : yX2_setBad.cls ≠ "java/lang/invoke/MethodHandle" ∧ yX2_setBad.cls ≠ "java/lang/invoke/VarHandle" ∧ (parseMethodDescriptor yX2_setBad.desc).map (fun d => d.parameters.length) = some 2 := by decide +kernel
theorem kd_X2_setQuestion : yX2_setQuestion.cls ≠ "java/lang/invoke/MethodHandle" ∧ yX2_setQuestion.cls ≠ "java/lang/invoke/VarHandle" ∧ (parseMethodDescriptor yX2_setQuestion.desc).map (fun d => d.parameters.length) = some 4 := by decide +kernel
theorem kd_X2_setTargets : yX2_setTargets.cls ≠ "java/lang/invoke/MethodHandle" ∧ yX2_setTargets.cls ≠ "java/lang/invoke/VarHandle" ∧ (parseMethodDescriptor yX2_setTargets.desc).map (fun d => d.parameters.length) = some 3 := by decide +kernel
theorem kd_X3_add : yX3_add.cls ≠ "java/lang/invoke/MethodHandle" ∧ yX3_add.cls ≠ "java/lang/invoke/VarHandle" ∧ (parseMethodDescriptor yX3_add.desc).map (fun d => d.parameters.length) = some 3 := by decide +kernel
theorem kd_X5_checkCase : yX5_checkCase.cls ≠ "java/lang/invoke/MethodHandle" ∧ yX5_checkCase.cls ≠ "java/lang/invoke/VarHandle" ∧ (parseMethodDescriptor yX5_checkCase.desc).map (fun d => d.parameters.length) = some 1 := by decide +kernel
theorem kd_X5_checkEdge : yX5_checkEdge.cls ≠ "java/lang/invoke/MethodHandle" ∧ yX5_checkEdge.cls ≠ "java/lang/invoke/VarHandle" ∧ (parseMethodDescriptor yX5_checkEdge.desc).map (fun d => d.parameters.length) = some 1 := by decide +kernel
theorem kd_X5_checkNode : yX5_checkNode.cls ≠ "java/lang/invoke/MethodHandle" ∧ yX5_checkNode.cls ≠ "java/lang/invoke/VarHandle" ∧ (parseMethodDescriptor yX5_checkNode.desc).map (fun d => d.parameters.length) = some 1 := by decide +kernel
theorem kd_X5_checkQuestion : yX5_checkQuestion.cls ≠ "java/lang/invoke/MethodHandle" ∧ yX5_checkQuestion.cls ≠ "java/lang/invoke/VarHandle" ∧ (parseMethodDescriptor yX5_checkQuestion.desc).map (fun d => d.parameters.length) = some 2 := by decide +kernel
theorem kd_X5_checkRoom : yX5_checkRoom.cls ≠ "java/lang/invoke/MethodHandle" ∧ yX5_checkRoom.cls ≠ "java/lang/invoke/VarHandle" ∧ (parseMethodDescriptor yX5_checkRoom.desc).map (fun d => d.parameters.length) = some 0 := by decide +kernel
theorem kd_X5_checkSlot : yX5_checkSlot.cls ≠ "java/lang/invoke/MethodHandle" ∧ yX5_checkSlot.cls ≠ "java/lang/invoke/VarHandle" ∧ (parseMethodDescriptor yX5_checkSlot.desc).map (fun d => d.parameters.length) = some 1 := by decide +kernel
theorem kd_X5_checkTarget : yX5_checkTarget.cls ≠ "java/lang/invoke/MethodHandle" ∧ yX5_checkTarget.cls ≠ "java/lang/invoke/VarHandle" ∧ (parseMethodDescriptor yX5_checkTarget.desc).map (fun d => d.parameters.length) = some 1 := by decide +kernel
theorem kd_X5_checkWeight : yX5_checkWeight.cls ≠ "java/lang/invoke/MethodHandle" ∧ yX5_checkWeight.cls ≠ "java/lang/invoke/VarHandle" ∧ (parseMethodDescriptor yX5_checkWeight.desc).map (fun d => d.parameters.length) = some 1 := by decide +kernel
theorem kd_X5_edgesIn : yX5_edgesIn.cls ≠ "java/lang/invoke/MethodHandle" ∧ yX5_edgesIn.cls ≠ "java/lang/invoke/VarHandle" ∧ (parseMethodDescriptor yX5_edgesIn.desc).map (fun d => d.parameters.length) = some 1 := by decide +kernel
theorem kd_X5_fewestFrom : yX5_fewestFrom.cls ≠ "java/lang/invoke/MethodHandle" ∧ yX5_fewestFrom.cls ≠ "java/lang/invoke/VarHandle" ∧ (parseMethodDescriptor yX5_fewestFrom.desc).map (fun d => d.parameters.length) = some 6 := by decide +kernel
theorem kd_X5_keptAfterChange : yX5_keptAfterChange.cls ≠ "java/lang/invoke/MethodHandle" ∧ yX5_keptAfterChange.cls ≠ "java/lang/invoke/VarHandle" ∧ (parseMethodDescriptor yX5_keptAfterChange.desc).map (fun d => d.parameters.length) = some 0 := by decide +kernel
theorem kd_X5_resultOf : yX5_resultOf.cls ≠ "java/lang/invoke/MethodHandle" ∧ yX5_resultOf.cls ≠ "java/lang/invoke/VarHandle" ∧ (parseMethodDescriptor yX5_resultOf.desc).map (fun d => d.parameters.length) = some 1 := by decide +kernel
theorem kd_X5_tasteOf : yX5_tasteOf.cls ≠ "java/lang/invoke/MethodHandle" ∧ yX5_tasteOf.cls ≠ "java/lang/invoke/VarHandle" ∧ (parseMethodDescriptor yX5_tasteOf.desc).map (fun d => d.parameters.length) = some 1 := by decide +kernel
theorem hin_X5_ask_RX5 : ∀ z ∈ u_ws RX5 TX5 5, z ∈ wsX5_ask := by decide +kernel
theorem hin_X5_bad_RX5 : ∀ z ∈ u_ws RX5 TX5 5, z ∈ wsX5_bad := by decide +kernel
theorem hin_X5_covers_RX4 : ∀ z ∈ u_ws RX4 TX4 4, z ∈ wsX5_covers := by decide +kernel
theorem hin_X5_covers_RX5 : ∀ z ∈ u_ws RX5 TX5 5, z ∈ wsX5_covers := by decide +kernel
theorem hin_X5_draw_RX1 : ∀ z ∈ u_ws RX1 TX1 4, z ∈ wsX5_draw := by decide +kernel
theorem hin_X5_draw_RX5 : ∀ z ∈ u_ws RX5 TX5 5, z ∈ wsX5_draw := by decide +kernel
theorem hin_X5_edge_RX4 : ∀ z ∈ u_ws RX4 TX4 4, z ∈ wsX5_edge := by decide +kernel
theorem hin_X5_edge_RX5 : ∀ z ∈ u_ws RX5 TX5 5, z ∈ wsX5_edge := by decide +kernel
theorem hin_X5_fewest_RX0 : ∀ z ∈ u_ws RX0 TX0 6, z ∈ wsX5_fewest := by decide +kernel
theorem hin_X5_fewest_RX5 : ∀ z ∈ u_ws RX5 TX5 5, z ∈ wsX5_fewest := by decide +kernel
theorem hin_X5_generate_RX5 : ∀ z ∈ u_ws RX5 TX5 5, z ∈ wsX5_generate := by decide +kernel
theorem hin_X5_lead_RX5 : ∀ z ∈ u_ws RX5 TX5 5, z ∈ wsX5_lead := by decide +kernel
theorem hin_X5_many_RX0 : ∀ z ∈ u_ws RX0 TX0 6, z ∈ wsX5_many := by decide +kernel
theorem hin_X5_many_RX1 : ∀ z ∈ u_ws RX1 TX1 4, z ∈ wsX5_many := by decide +kernel
theorem hin_X5_many_RX3 : ∀ z ∈ u_ws RX3 TX3 4, z ∈ wsX5_many := by decide +kernel
theorem hin_X5_many_RX5 : ∀ z ∈ u_ws RX5 TX5 5, z ∈ wsX5_many := by decide +kernel
theorem hin_X5_meanEnergy_RX0 : ∀ z ∈ u_ws RX0 TX0 6, z ∈ wsX5_meanEnergy := by decide +kernel
theorem hin_X5_meanEnergy_RX5 : ∀ z ∈ u_ws RX5 TX5 5, z ∈ wsX5_meanEnergy := by decide +kernel
theorem hin_X5_ofEdge_RX0 : ∀ z ∈ u_ws RX0 TX0 6, z ∈ wsX5_ofEdge := by decide +kernel
theorem hin_X5_ofEdge_RX5 : ∀ z ∈ u_ws RX5 TX5 5, z ∈ wsX5_ofEdge := by decide +kernel
theorem hin_X5_otherwise_RX0 : ∀ z ∈ u_ws RX0 TX0 6, z ∈ wsX5_otherwise := by decide +kernel
theorem hin_X5_otherwise_RX2 : ∀ z ∈ u_ws RX2 TX2 5, z ∈ wsX5_otherwise := by decide +kernel
theorem hin_X5_otherwise_RX5 : ∀ z ∈ u_ws RX5 TX5 5, z ∈ wsX5_otherwise := by decide +kernel
theorem hin_X5_relation_RX3 : ∀ z ∈ u_ws RX3 TX3 4, z ∈ wsX5_relation := by decide +kernel
theorem hin_X5_relation_RX5 : ∀ z ∈ u_ws RX5 TX5 5, z ∈ wsX5_relation := by decide +kernel
theorem hin_X5_smallest_RX4 : ∀ z ∈ u_ws RX4 TX4 4, z ∈ wsX5_smallest := by decide +kernel
theorem hin_X5_smallest_RX5 : ∀ z ∈ u_ws RX5 TX5 5, z ∈ wsX5_smallest := by decide +kernel
theorem hin_X5_weights_RX5 : ∀ z ∈ u_ws RX5 TX5 5, z ∈ wsX5_weights := by decide +kernel
theorem hin_X5_wouldDrop_RX0 : ∀ z ∈ u_ws RX0 TX0 6, z ∈ wsX5_wouldDrop := by decide +kernel
theorem hin_X5_wouldDrop_RX5 : ∀ z ∈ u_ws RX5 TX5 5, z ∈ wsX5_wouldDrop := by decide +kernel
set_option maxHeartbeats 4000000 in
set_option maxRecDepth 100000 in
theorem k_setQuestion_full (l : Launch) {D : va_G} {cI cL cZ : ClassId} (hp : Nat) (p0 : Nat) (p1 : Nat) (p2 : Nat) (p3 : Nat) (p4 : Nat) (b1 : Nat) (b2 : Int32) (b3 : Int32) (b4 : Int32) (h1 : b1 < 12) : WM l yX2_setQuestion wsX2_setQuestion ({ frames := 0, cells := 0, slots := 0, locals := 0 } : Room) D (gTys cI cL cZ) [.ref hp, .int (nI b1), .int b2, .int b3, .int b4] [(hp, .inr (2, [.ref p0, .ref p1, .ref p2, .ref p3, .ref p4])), (p0, .inl (cI, 12, .inl (fun _ => (0 : Int32)))), (p1, .inl (cI, 12, .inl (fun _ => (0 : Int32)))), (p2, .inl (cI, 12, .inl (fun _ => (0 : Int32))))] (fun (_ : Unit) => True) (fun (_ : Unit) => none) (fun (_ : Unit) => [(hp, .inr (2, [.ref p0, .ref p1, .ref p2, .ref p3, .ref p4])), (p0, .inl (cI, 12, .inl (upd (fun _ => (0 : Int32)) b1 b2))), (p1, .inl (cI, 12, .inl (upd (fun _ => (0 : Int32)) b1 b3))), (p2, .inl (cI, 12, .inl (upd (fun _ => (0 : Int32)) b1 b4)))]) := by
  refine WM.ofG cX2_setQuestion 5 none (by decide +kernel) rfl (Nat.le_of_ble_eq_true rfl) ?_
  intro p e s m below meth c A hA B hr hlocks hname hK hN
  refine g_aload_n B dX2_setQuestion_0 0 rfl ?_
  refine g_get (C := RX2) (T := TX2) (N := 5) (ci := 2) B hK hin_X2_setQuestion_RX2 0 rfl rfl 0 (by decide) (List.mem_of_getElem? (i := 1) rfl) rfl (v := .ref p0) rfl dX2_setQuestion_1 ?_
  refine g_iload_n B dX2_setQuestion_4 1 rfl ?_
  refine g_iload_n B dX2_setQuestion_5 2 rfl ?_
  refine g_iast B hK 1 0 rfl rfl b1 rfl (by omega) (by omega) (f2 := (upd (fun _ => (0 : Int32)) b1 b2)) (rfl) (w2 := [(hp, .inr (2, [.ref p0, .ref p1, .ref p2, .ref p3, .ref p4])), (p0, .inl (cI, 12, .inl (upd (fun _ => (0 : Int32)) b1 b2))), (p1, .inl (cI, 12, .inl (fun _ => (0 : Int32)))), (p2, .inl (cI, 12, .inl (fun _ => (0 : Int32))))]) rfl (fun _ h => h) dX2_setQuestion_6 ?_
  refine g_aload_n B dX2_setQuestion_7 0 rfl ?_
  refine g_get (C := RX2) (T := TX2) (N := 5) (ci := 2) B hK hin_X2_setQuestion_RX2 0 rfl rfl 1 (by decide) (List.mem_of_getElem? (i := 2) rfl) rfl (v := .ref p1) rfl dX2_setQuestion_8 ?_
  refine g_iload_n B dX2_setQuestion_11 1 rfl ?_
  refine g_iload_n B dX2_setQuestion_12 3 rfl ?_
  refine g_iast B hK 2 0 rfl rfl b1 rfl (by omega) (by omega) (f2 := (upd (fun _ => (0 : Int32)) b1 b3)) (rfl) (w2 := [(hp, .inr (2, [.ref p0, .ref p1, .ref p2, .ref p3, .ref p4])), (p0, .inl (cI, 12, .inl (upd (fun _ => (0 : Int32)) b1 b2))), (p1, .inl (cI, 12, .inl (upd (fun _ => (0 : Int32)) b1 b3))), (p2, .inl (cI, 12, .inl (fun _ => (0 : Int32))))]) rfl (fun _ h => h) dX2_setQuestion_13 ?_
  refine g_aload_n B dX2_setQuestion_14 0 rfl ?_
  refine g_get (C := RX2) (T := TX2) (N := 5) (ci := 2) B hK hin_X2_setQuestion_RX2 0 rfl rfl 2 (by decide) (List.mem_of_getElem? (i := 3) rfl) rfl (v := .ref p2) rfl dX2_setQuestion_15 ?_
  refine g_iload_n B dX2_setQuestion_18 1 rfl ?_
  refine g_iload B dX2_setQuestion_19 4 rfl ?_
  refine g_iast B hK 3 0 rfl rfl b1 rfl (by omega) (by omega) (f2 := (upd (fun _ => (0 : Int32)) b1 b4)) (rfl) (w2 := [(hp, .inr (2, [.ref p0, .ref p1, .ref p2, .ref p3, .ref p4])), (p0, .inl (cI, 12, .inl (upd (fun _ => (0 : Int32)) b1 b2))), (p1, .inl (cI, 12, .inl (upd (fun _ => (0 : Int32)) b1 b3))), (p2, .inl (cI, 12, .inl (upd (fun _ => (0 : Int32)) b1 b4)))]) rfl (fun _ h => h) dX2_setQuestion_21 ?_
  exact g_vret_w B hr hlocks () (rfl) (trivial) [0, 1, 2, 3] (by decide) rfl dX2_setQuestion_22

set_option maxHeartbeats 4000000 in
set_option maxRecDepth 100000 in
theorem k_ask_v (l : Launch) {D : va_G} {cI cL cZ : ClassId} (hb : Nat) (hp : Nat) (ht : Nat) (hg : Nat) (ha : Nat) (hq : Nat) (p0 : Nat) (p1 : Nat) (p2 : Nat) (p3 : Nat) (p4 : Nat) (a0 : Nat) (a1 : Nat) (a2 : Nat) (a3 : Nat) (b1 : Nat) (b2 : Nat) (b3 : Nat) (b4 : Nat) (h1 : b1 < 12) (h2 : b2 < 4) (h3 : b3 < 3) (h4 : b4 < 10) : WM l yX5_ask wsX5_ask ({ frames := 4, cells := 0, slots := 0, locals := 89 } : Room) D (gTys cI cL cZ) [.ref hb, .int (nI b1), .int (nI b2), .int (nI b3), .int (nI b4)] [(hb, .inr (5, [.ref hp, .ref ht, .ref hg, .ref ha, .ref hq])), (hp, .inr (2, [.ref p0, .ref p1, .ref p2, .ref p3, .ref p4])), (p0, .inl (cI, 12, .inl (fun _ => (0 : Int32)))), (p1, .inl (cI, 12, .inl (fun _ => (0 : Int32)))), (p2, .inl (cI, 12, .inl (fun _ => (0 : Int32)))), (ha, .inr (0, [.ref a0, .ref a1, .ref a2, .ref a3, .int (0 : Int32), .long (0 : Int64)]))] (fun (_ : Unit) => True) (fun (_ : Unit) => some (.int (0 : Int32))) (fun (_ : Unit) => []) := by
  refine WM.ofG cX5_ask 5 (some .int) (by decide +kernel) rfl (Nat.le_of_ble_eq_true rfl) ?_
  intro p e s m below meth c A hA B hr hlocks hname hK hN
  refine g_iload_n B dX5_ask_0 1 rfl ?_
  refine g_callP (g_runS B (PM.met (k_checkNode_n l (D := D) (cI := cI) (cL := cL) (cZ := cZ) b1 (by omega))) (gPp.pre (av := [.int (nI b1)]) (wc := []) hK hN [] rfl (by decide)) gX5_ask_X5_checkNode rfl kd_X5_checkNode ⟨by decide, by decide⟩ (st := []) rfl (Nat.le_of_ble_eq_true rfl) dX5_ask_1 ⟨by decide, by decide⟩) (fun u hu => ?_)
  refine g_iload_n B dX5_ask_4 2 rfl ?_
  refine g_callP (g_runS B (PM.met (k_checkSlot_n l (D := D) (cI := cI) (cL := cL) (cZ := cZ) b2 (by omega))) (gPp.pre (av := [.int (nI b2)]) (wc := []) hK hN [] rfl (by decide)) gX5_ask_X5_checkSlot rfl kd_X5_checkSlot ⟨by decide, by decide⟩ (st := []) rfl (Nat.le_of_ble_eq_true rfl) dX5_ask_5 ⟨by decide, by decide⟩) (fun u hu => ?_)
  refine g_iload_n B dX5_ask_8 3 rfl ?_
  refine g_iload B dX5_ask_9 4 rfl ?_
  refine g_callP (g_runS B (PM.met (k_checkQuestion_n l (D := D) (cI := cI) (cL := cL) (cZ := cZ) b3 b4 (by omega) (by omega))) (gPp.pre (av := [.int (nI b3), .int (nI b4)]) (wc := []) hK hN [] rfl (by decide)) gX5_ask_X5_checkQuestion rfl kd_X5_checkQuestion ⟨by decide, by decide⟩ (st := []) rfl (Nat.le_of_ble_eq_true rfl) dX5_ask_11 ⟨by decide, by decide⟩) (fun u hu => ?_)
  refine g_aload_n B dX5_ask_14 0 rfl ?_
  refine g_get (C := RX5) (T := TX5) (N := 5) (ci := 5) B hK hin_X5_ask_RX5 0 rfl rfl 0 (by decide) (List.mem_of_getElem? (i := 1) rfl) rfl (v := .ref hp) rfl dX5_ask_15 ?_
  refine g_iload_n B dX5_ask_18 1 rfl ?_
  refine g_iload_n B dX5_ask_19 2 rfl ?_
  refine g_iload_n B dX5_ask_20 3 rfl ?_
  refine g_iload B dX5_ask_21 4 rfl ?_
  refine g_callW (w2 := (fun (_ : Unit) => [(hb, .inr (5, [.ref hp, .ref ht, .ref hg, .ref ha, .ref hq])), (hp, .inr (2, [.ref p0, .ref p1, .ref p2, .ref p3, .ref p4])), (ha, .inr (0, [.ref a0, .ref a1, .ref a2, .ref a3, .int (0 : Int32), .long (0 : Int64)]))])) (g_runV (q0 := 1) (ci := 2) B hK rfl rfl (k_setQuestion l (D := D) (cI := cI) (cL := cL) (cZ := cZ) hp p0 p1 p2 p3 p4 b1 (nI b2) (nI b3) (nI b4) (by omega)) (gPw.pre (av := [.ref hp, .int (nI b1), .int (nI b2), .int (nI b3), .int (nI b4)]) (wc := [(hp, .inr (2, [.ref p0, .ref p1, .ref p2, .ref p3, .ref p4])), (p0, .inl (cI, 12, .inl (fun _ => (0 : Int32)))), (p1, .inl (cI, 12, .inl (fun _ => (0 : Int32)))), (p2, .inl (cI, 12, .inl (fun _ => (0 : Int32))))]) hK hN [1, 2, 3, 4] rfl (by decide)) gX5_ask_X2_setQuestion rfl rfl kd_X2_setQuestion ⟨by decide, by decide⟩ (st := []) rfl (Nat.le_of_ble_eq_true rfl) dX5_ask_23 ⟨by decide, by decide⟩) hA (fun _ h => h) [1, 2, 3, 4] [0, 5] (wr := [(hb, .inr (5, [.ref hp, .ref ht, .ref hg, .ref ha, .ref hq])), (ha, .inr (0, [.ref a0, .ref a1, .ref a2, .ref a3, .int (0 : Int32), .long (0 : Int64)]))]) rfl rfl (by decide) (by decide) [0, 2, 1] (by decide) (fun _ => rfl) (fun u hu => ?_)
  refine g_aload_n B dX5_ask_26 0 rfl ?_
  refine g_callW (w2 := (fun (_ : Unit) => [(hb, .inr (5, [.ref hp, .ref ht, .ref hg, .ref ha, .ref hq])), (hp, .inr (2, [.ref p0, .ref p1, .ref p2, .ref p3, .ref p4]))])) (g_runV (q0 := 0) (ci := 5) B hK rfl rfl (k_keptAfterChange l (D := D) (cI := cI) (cL := cL) (cZ := cZ) hb hp ht hg ha hq a0 a1 a2 a3 ) (gPw.pre (av := [.ref hb]) (wc := [(hb, .inr (5, [.ref hp, .ref ht, .ref hg, .ref ha, .ref hq])), (ha, .inr (0, [.ref a0, .ref a1, .ref a2, .ref a3, .int (0 : Int32), .long (0 : Int64)]))]) hK hN [0, 2] rfl (by decide)) gX5_ask_X5_keptAfterChange rfl rfl kd_X5_keptAfterChange ⟨by decide, by decide⟩ (st := []) rfl (Nat.le_of_ble_eq_true rfl) dX5_ask_27 ⟨by decide, by decide⟩) hA (fun _ h => h) [0, 2] [1] (wr := [(hp, .inr (2, [.ref p0, .ref p1, .ref p2, .ref p3, .ref p4]))]) rfl rfl (by decide) (by decide) [1, 0] (by decide) (fun _ => rfl) (fun u hu => ?_)
  exact g_iret_w B hr rfl hlocks () (rfl) (trivial) [] (by decide) rfl dX5_ask_30

set_option maxHeartbeats 4000000 in
set_option maxRecDepth 100000 in
theorem k_lead_vmm (l : Launch) {D : va_G} {cI cL cZ : ClassId} (hb : Nat) (hp : Nat) (ht : Nat) (hg : Nat) (ha : Nat) (hq : Nat) (p0 : Nat) (p1 : Nat) (p2 : Nat) (p3 : Nat) (p4 : Nat) (a0 : Nat) (a1 : Nat) (a2 : Nat) (a3 : Nat) (b1 : Nat) (h1 : b1 < 12) : WM l yX5_lead wsX5_lead ({ frames := 4, cells := 0, slots := 0, locals := 89 } : Room) D (gTys cI cL cZ) [.ref hb, .int (nI b1), .int (-1 : Int32), .int (-1 : Int32)] [(hb, .inr (5, [.ref hp, .ref ht, .ref hg, .ref ha, .ref hq])), (hp, .inr (2, [.ref p0, .ref p1, .ref p2, .ref p3, .ref p4])), (p3, .inl (cI, 24, .inl (fun _ => (-1 : Int32)))), (ha, .inr (0, [.ref a0, .ref a1, .ref a2, .ref a3, .int (0 : Int32), .long (0 : Int64)]))] (fun (_ : Unit) => True) (fun (_ : Unit) => some (.int (0 : Int32))) (fun (_ : Unit) => []) := by
  refine WM.ofG cX5_lead 4 (some .int) (by decide +kernel) rfl (Nat.le_of_ble_eq_true rfl) ?_
  intro p e s m below meth c A hA B hr hlocks hname hK hN
  refine g_iload_n B dX5_lead_0 1 rfl ?_
  refine g_callP (g_runS B (PM.met (k_checkNode_n l (D := D) (cI := cI) (cL := cL) (cZ := cZ) b1 (by omega))) (gPp.pre (av := [.int (nI b1)]) (wc := []) hK hN [] rfl (by decide)) gX5_lead_X5_checkNode rfl kd_X5_checkNode ⟨by decide, by decide⟩ (st := []) rfl (Nat.le_of_ble_eq_true rfl) dX5_lead_1 ⟨by decide, by decide⟩) (fun u hu => ?_)
  refine g_iload_n B dX5_lead_4 2 rfl ?_
  refine g_callP (g_runS B (PM.met (k_checkTarget_m l (D := D) (cI := cI) (cL := cL) (cZ := cZ)  )) (gPp.pre (av := [.int (-1 : Int32)]) (wc := []) hK hN [] rfl (by decide)) gX5_lead_X5_checkTarget rfl kd_X5_checkTarget ⟨by decide, by decide⟩ (st := []) rfl (Nat.le_of_ble_eq_true rfl) dX5_lead_5 ⟨by decide, by decide⟩) (fun u hu => ?_)
  refine g_iload_n B dX5_lead_8 3 rfl ?_
  refine g_callP (g_runS B (PM.met (k_checkTarget_m l (D := D) (cI := cI) (cL := cL) (cZ := cZ)  )) (gPp.pre (av := [.int (-1 : Int32)]) (wc := []) hK hN [] rfl (by decide)) gX5_lead_X5_checkTarget rfl kd_X5_checkTarget ⟨by decide, by decide⟩ (st := []) rfl (Nat.le_of_ble_eq_true rfl) dX5_lead_9 ⟨by decide, by decide⟩) (fun u hu => ?_)
  refine g_aload_n B dX5_lead_12 0 rfl ?_
  refine g_get (C := RX5) (T := TX5) (N := 5) (ci := 5) B hK hin_X5_lead_RX5 0 rfl rfl 0 (by decide) (List.mem_of_getElem? (i := 1) rfl) rfl (v := .ref hp) rfl dX5_lead_13 ?_
  refine g_iload_n B dX5_lead_16 1 rfl ?_
  refine g_iload_n B dX5_lead_17 2 rfl ?_
  refine g_iload_n B dX5_lead_18 3 rfl ?_
  refine g_callW (w2 := (fun (_ : Unit) => [(hb, .inr (5, [.ref hp, .ref ht, .ref hg, .ref ha, .ref hq])), (hp, .inr (2, [.ref p0, .ref p1, .ref p2, .ref p3, .ref p4])), (ha, .inr (0, [.ref a0, .ref a1, .ref a2, .ref a3, .int (0 : Int32), .long (0 : Int64)]))])) (g_runV (q0 := 1) (ci := 2) B hK rfl rfl (k_setTargets l (D := D) (cI := cI) (cL := cL) (cZ := cZ) hp p0 p1 p2 p3 p4 b1 (-1 : Int32) (-1 : Int32) (by omega)) (gPw.pre (av := [.ref hp, .int (nI b1), .int (-1 : Int32), .int (-1 : Int32)]) (wc := [(hp, .inr (2, [.ref p0, .ref p1, .ref p2, .ref p3, .ref p4])), (p3, .inl (cI, 24, .inl (fun _ => (-1 : Int32))))]) hK hN [1, 2] rfl (by decide)) gX5_lead_X2_setTargets rfl rfl kd_X2_setTargets ⟨by decide, by decide⟩ (st := []) rfl (Nat.le_of_ble_eq_true rfl) dX5_lead_19 ⟨by decide, by decide⟩) hA (fun _ h => h) [1, 2] [0, 3] (wr := [(hb, .inr (5, [.ref hp, .ref ht, .ref hg, .ref ha, .ref hq])), (ha, .inr (0, [.ref a0, .ref a1, .ref a2, .ref a3, .int (0 : Int32), .long (0 : Int64)]))]) rfl rfl (by decide) (by decide) [0, 2, 1] (by decide) (fun _ => rfl) (fun u hu => ?_)
  refine g_aload_n B dX5_lead_22 0 rfl ?_
  refine g_callW (w2 := (fun (_ : Unit) => [(hb, .inr (5, [.ref hp, .ref ht, .ref hg, .ref ha, .ref hq])), (hp, .inr (2, [.ref p0, .ref p1, .ref p2, .ref p3, .ref p4]))])) (g_runV (q0 := 0) (ci := 5) B hK rfl rfl (k_keptAfterChange l (D := D) (cI := cI) (cL := cL) (cZ := cZ) hb hp ht hg ha hq a0 a1 a2 a3 ) (gPw.pre (av := [.ref hb]) (wc := [(hb, .inr (5, [.ref hp, .ref ht, .ref hg, .ref ha, .ref hq])), (ha, .inr (0, [.ref a0, .ref a1, .ref a2, .ref a3, .int (0 : Int32), .long (0 : Int64)]))]) hK hN [0, 2] rfl (by decide)) gX5_lead_X5_keptAfterChange rfl rfl kd_X5_keptAfterChange ⟨by decide, by decide⟩ (st := []) rfl (Nat.le_of_ble_eq_true rfl) dX5_lead_23 ⟨by decide, by decide⟩) hA (fun _ h => h) [0, 2] [1] (wr := [(hp, .inr (2, [.ref p0, .ref p1, .ref p2, .ref p3, .ref p4]))]) rfl rfl (by decide) (by decide) [1, 0] (by decide) (fun _ => rfl) (fun u hu => ?_)
  exact g_iret_w B hr rfl hlocks () (rfl) (trivial) [] (by decide) rfl dX5_lead_26

set_option maxHeartbeats 4000000 in
set_option maxRecDepth 100000 in
theorem k_lead_vmn (l : Launch) {D : va_G} {cI cL cZ : ClassId} (hb : Nat) (hp : Nat) (ht : Nat) (hg : Nat) (ha : Nat) (hq : Nat) (p0 : Nat) (p1 : Nat) (p2 : Nat) (p3 : Nat) (p4 : Nat) (a0 : Nat) (a1 : Nat) (a2 : Nat) (a3 : Nat) (b1 : Nat) (b3 : Nat) (h1 : b1 < 12) (k3 : b3 < 12) : WM l yX5_lead wsX5_lead ({ frames := 4, cells := 0, slots := 0, locals := 89 } : Room) D (gTys cI cL cZ) [.ref hb, .int (nI b1), .int (-1 : Int32), .int (nI b3)] [(hb, .inr (5, [.ref hp, .ref ht, .ref hg, .ref ha, .ref hq])), (hp, .inr (2, [.ref p0, .ref p1, .ref p2, .ref p3, .ref p4])), (p3, .inl (cI, 24, .inl (fun _ => (-1 : Int32)))), (ha, .inr (0, [.ref a0, .ref a1, .ref a2, .ref a3, .int (0 : Int32), .long (0 : Int64)]))] (fun (_ : Unit) => True) (fun (_ : Unit) => some (.int (0 : Int32))) (fun (_ : Unit) => []) := by
  refine WM.ofG cX5_lead 4 (some .int) (by decide +kernel) rfl (Nat.le_of_ble_eq_true rfl) ?_
  intro p e s m below meth c A hA B hr hlocks hname hK hN
  refine g_iload_n B dX5_lead_0 1 rfl ?_
  refine g_callP (g_runS B (PM.met (k_checkNode_n l (D := D) (cI := cI) (cL := cL) (cZ := cZ) b1 (by omega))) (gPp.pre (av := [.int (nI b1)]) (wc := []) hK hN [] rfl (by decide)) gX5_lead_X5_checkNode rfl kd_X5_checkNode ⟨by decide, by decide⟩ (st := []) rfl (Nat.le_of_ble_eq_true rfl) dX5_lead_1 ⟨by decide, by decide⟩) (fun u hu => ?_)
  refine g_iload_n B dX5_lead_4 2 rfl ?_
  refine g_callP (g_runS B (PM.met (k_checkTarget_m l (D := D) (cI := cI) (cL := cL) (cZ := cZ)  )) (gPp.pre (av := [.int (-1 : Int32)]) (wc := []) hK hN [] rfl (by decide)) gX5_lead_X5_checkTarget rfl kd_X5_checkTarget ⟨by decide, by decide⟩ (st := []) rfl (Nat.le_of_ble_eq_true rfl) dX5_lead_5 ⟨by decide, by decide⟩) (fun u hu => ?_)
  refine g_iload_n B dX5_lead_8 3 rfl ?_
  refine g_callP (g_runS B (PM.met (k_checkTarget_n l (D := D) (cI := cI) (cL := cL) (cZ := cZ) b3 (by omega))) (gPp.pre (av := [.int (nI b3)]) (wc := []) hK hN [] rfl (by decide)) gX5_lead_X5_checkTarget rfl kd_X5_checkTarget ⟨by decide, by decide⟩ (st := []) rfl (Nat.le_of_ble_eq_true rfl) dX5_lead_9 ⟨by decide, by decide⟩) (fun u hu => ?_)
  refine g_aload_n B dX5_lead_12 0 rfl ?_
  refine g_get (C := RX5) (T := TX5) (N := 5) (ci := 5) B hK hin_X5_lead_RX5 0 rfl rfl 0 (by decide) (List.mem_of_getElem? (i := 1) rfl) rfl (v := .ref hp) rfl dX5_lead_13 ?_
  refine g_iload_n B dX5_lead_16 1 rfl ?_
  refine g_iload_n B dX5_lead_17 2 rfl ?_
  refine g_iload_n B dX5_lead_18 3 rfl ?_
  refine g_callW (w2 := (fun (_ : Unit) => [(hb, .inr (5, [.ref hp, .ref ht, .ref hg, .ref ha, .ref hq])), (hp, .inr (2, [.ref p0, .ref p1, .ref p2, .ref p3, .ref p4])), (ha, .inr (0, [.ref a0, .ref a1, .ref a2, .ref a3, .int (0 : Int32), .long (0 : Int64)]))])) (g_runV (q0 := 1) (ci := 2) B hK rfl rfl (k_setTargets l (D := D) (cI := cI) (cL := cL) (cZ := cZ) hp p0 p1 p2 p3 p4 b1 (-1 : Int32) (nI b3) (by omega)) (gPw.pre (av := [.ref hp, .int (nI b1), .int (-1 : Int32), .int (nI b3)]) (wc := [(hp, .inr (2, [.ref p0, .ref p1, .ref p2, .ref p3, .ref p4])), (p3, .inl (cI, 24, .inl (fun _ => (-1 : Int32))))]) hK hN [1, 2] rfl (by decide)) gX5_lead_X2_setTargets rfl rfl kd_X2_setTargets ⟨by decide, by decide⟩ (st := []) rfl (Nat.le_of_ble_eq_true rfl) dX5_lead_19 ⟨by decide, by decide⟩) hA (fun _ h => h) [1, 2] [0, 3] (wr := [(hb, .inr (5, [.ref hp, .ref ht, .ref hg, .ref ha, .ref hq])), (ha, .inr (0, [.ref a0, .ref a1, .ref a2, .ref a3, .int (0 : Int32), .long (0 : Int64)]))]) rfl rfl (by decide) (by decide) [0, 2, 1] (by decide) (fun _ => rfl) (fun u hu => ?_)
  refine g_aload_n B dX5_lead_22 0 rfl ?_
  refine g_callW (w2 := (fun (_ : Unit) => [(hb, .inr (5, [.ref hp, .ref ht, .ref hg, .ref ha, .ref hq])), (hp, .inr (2, [.ref p0, .ref p1, .ref p2, .ref p3, .ref p4]))])) (g_runV (q0 := 0) (ci := 5) B hK rfl rfl (k_keptAfterChange l (D := D) (cI := cI) (cL := cL) (cZ := cZ) hb hp ht hg ha hq a0 a1 a2 a3 ) (gPw.pre (av := [.ref hb]) (wc := [(hb, .inr (5, [.ref hp, .ref ht, .ref hg, .ref ha, .ref hq])), (ha, .inr (0, [.ref a0, .ref a1, .ref a2, .ref a3, .int (0 : Int32), .long (0 : Int64)]))]) hK hN [0, 2] rfl (by decide)) gX5_lead_X5_keptAfterChange rfl rfl kd_X5_keptAfterChange ⟨by decide, by decide⟩ (st := []) rfl (Nat.le_of_ble_eq_true rfl) dX5_lead_23 ⟨by decide, by decide⟩) hA (fun _ h => h) [0, 2] [1] (wr := [(hp, .inr (2, [.ref p0, .ref p1, .ref p2, .ref p3, .ref p4]))]) rfl rfl (by decide) (by decide) [1, 0] (by decide) (fun _ => rfl) (fun u hu => ?_)
  exact g_iret_w B hr rfl hlocks () (rfl) (trivial) [] (by decide) rfl dX5_lead_26

set_option maxHeartbeats 4000000 in
set_option maxRecDepth 100000 in
theorem k_lead_vnm (l : Launch) {D : va_G} {cI cL cZ : ClassId} (hb : Nat) (hp : Nat) (ht : Nat) (hg : Nat) (ha : Nat) (hq : Nat) (p0 : Nat) (p1 : Nat) (p2 : Nat) (p3 : Nat) (p4 : Nat) (a0 : Nat) (a1 : Nat) (a2 : Nat) (a3 : Nat) (b1 : Nat) (b2 : Nat) (h1 : b1 < 12) (k2 : b2 < 12) : WM l yX5_lead wsX5_lead ({ frames := 4, cells := 0, slots := 0, locals := 89 } : Room) D (gTys cI cL cZ) [.ref hb, .int (nI b1), .int (nI b2), .int (-1 : Int32)] [(hb, .inr (5, [.ref hp, .ref ht, .ref hg, .ref ha, .ref hq])), (hp, .inr (2, [.ref p0, .ref p1, .ref p2, .ref p3, .ref p4])), (p3, .inl (cI, 24, .inl (fun _ => (-1 : Int32)))), (ha, .inr (0, [.ref a0, .ref a1, .ref a2, .ref a3, .int (0 : Int32), .long (0 : Int64)]))] (fun (_ : Unit) => True) (fun (_ : Unit) => some (.int (0 : Int32))) (fun (_ : Unit) => []) := by
  refine WM.ofG cX5_lead 4 (some .int) (by decide +kernel) rfl (Nat.le_of_ble_eq_true rfl) ?_
  intro p e s m below meth c A hA B hr hlocks hname hK hN
  refine g_iload_n B dX5_lead_0 1 rfl ?_
  refine g_callP (g_runS B (PM.met (k_checkNode_n l (D := D) (cI := cI) (cL := cL) (cZ := cZ) b1 (by omega))) (gPp.pre (av := [.int (nI b1)]) (wc := []) hK hN [] rfl (by decide)) gX5_lead_X5_checkNode rfl kd_X5_checkNode ⟨by decide, by decide⟩ (st := []) rfl (Nat.le_of_ble_eq_true rfl) dX5_lead_1 ⟨by decide, by decide⟩) (fun u hu => ?_)
  refine g_iload_n B dX5_lead_4 2 rfl ?_
  refine g_callP (g_runS B (PM.met (k_checkTarget_n l (D := D) (cI := cI) (cL := cL) (cZ := cZ) b2 (by omega))) (gPp.pre (av := [.int (nI b2)]) (wc := []) hK hN [] rfl (by decide)) gX5_lead_X5_checkTarget rfl kd_X5_checkTarget ⟨by decide, by decide⟩ (st := []) rfl (Nat.le_of_ble_eq_true rfl) dX5_lead_5 ⟨by decide, by decide⟩) (fun u hu => ?_)
  refine g_iload_n B dX5_lead_8 3 rfl ?_
  refine g_callP (g_runS B (PM.met (k_checkTarget_m l (D := D) (cI := cI) (cL := cL) (cZ := cZ)  )) (gPp.pre (av := [.int (-1 : Int32)]) (wc := []) hK hN [] rfl (by decide)) gX5_lead_X5_checkTarget rfl kd_X5_checkTarget ⟨by decide, by decide⟩ (st := []) rfl (Nat.le_of_ble_eq_true rfl) dX5_lead_9 ⟨by decide, by decide⟩) (fun u hu => ?_)
  refine g_aload_n B dX5_lead_12 0 rfl ?_
  refine g_get (C := RX5) (T := TX5) (N := 5) (ci := 5) B hK hin_X5_lead_RX5 0 rfl rfl 0 (by decide) (List.mem_of_getElem? (i := 1) rfl) rfl (v := .ref hp) rfl dX5_lead_13 ?_
  refine g_iload_n B dX5_lead_16 1 rfl ?_
  refine g_iload_n B dX5_lead_17 2 rfl ?_
  refine g_iload_n B dX5_lead_18 3 rfl ?_
  refine g_callW (w2 := (fun (_ : Unit) => [(hb, .inr (5, [.ref hp, .ref ht, .ref hg, .ref ha, .ref hq])), (hp, .inr (2, [.ref p0, .ref p1, .ref p2, .ref p3, .ref p4])), (ha, .inr (0, [.ref a0, .ref a1, .ref a2, .ref a3, .int (0 : Int32), .long (0 : Int64)]))])) (g_runV (q0 := 1) (ci := 2) B hK rfl rfl (k_setTargets l (D := D) (cI := cI) (cL := cL) (cZ := cZ) hp p0 p1 p2 p3 p4 b1 (nI b2) (-1 : Int32) (by omega)) (gPw.pre (av := [.ref hp, .int (nI b1), .int (nI b2), .int (-1 : Int32)]) (wc := [(hp, .inr (2, [.ref p0, .ref p1, .ref p2, .ref p3, .ref p4])), (p3, .inl (cI, 24, .inl (fun _ => (-1 : Int32))))]) hK hN [1, 2] rfl (by decide)) gX5_lead_X2_setTargets rfl rfl kd_X2_setTargets ⟨by decide, by decide⟩ (st := []) rfl (Nat.le_of_ble_eq_true rfl) dX5_lead_19 ⟨by decide, by decide⟩) hA (fun _ h => h) [1, 2] [0, 3] (wr := [(hb, .inr (5, [.ref hp, .ref ht, .ref hg, .ref ha, .ref hq])), (ha, .inr (0, [.ref a0, .ref a1, .ref a2, .ref a3, .int (0 : Int32), .long (0 : Int64)]))]) rfl rfl (by decide) (by decide) [0, 2, 1] (by decide) (fun _ => rfl) (fun u hu => ?_)
  refine g_aload_n B dX5_lead_22 0 rfl ?_
  refine g_callW (w2 := (fun (_ : Unit) => [(hb, .inr (5, [.ref hp, .ref ht, .ref hg, .ref ha, .ref hq])), (hp, .inr (2, [.ref p0, .ref p1, .ref p2, .ref p3, .ref p4]))])) (g_runV (q0 := 0) (ci := 5) B hK rfl rfl (k_keptAfterChange l (D := D) (cI := cI) (cL := cL) (cZ := cZ) hb hp ht hg ha hq a0 a1 a2 a3 ) (gPw.pre (av := [.ref hb]) (wc := [(hb, .inr (5, [.ref hp, .ref ht, .ref hg, .ref ha, .ref hq])), (ha, .inr (0, [.ref a0, .ref a1, .ref a2, .ref a3, .int (0 : Int32), .long (0 : Int64)]))]) hK hN [0, 2] rfl (by decide)) gX5_lead_X5_keptAfterChange rfl rfl kd_X5_keptAfterChange ⟨by decide, by decide⟩ (st := []) rfl (Nat.le_of_ble_eq_true rfl) dX5_lead_23 ⟨by decide, by decide⟩) hA (fun _ h => h) [0, 2] [1] (wr := [(hp, .inr (2, [.ref p0, .ref p1, .ref p2, .ref p3, .ref p4]))]) rfl rfl (by decide) (by decide) [1, 0] (by decide) (fun _ => rfl) (fun u hu => ?_)
  exact g_iret_w B hr rfl hlocks () (rfl) (trivial) [] (by decide) rfl dX5_lead_26

set_option maxHeartbeats 4000000 in
set_option maxRecDepth 100000 in
theorem k_lead_vnn (l : Launch) {D : va_G} {cI cL cZ : ClassId} (hb : Nat) (hp : Nat) (ht : Nat) (hg : Nat) (ha : Nat) (hq : Nat) (p0 : Nat) (p1 : Nat) (p2 : Nat) (p3 : Nat) (p4 : Nat) (a0 : Nat) (a1 : Nat) (a2 : Nat) (a3 : Nat) (b1 : Nat) (b2 : Nat) (b3 : Nat) (h1 : b1 < 12) (k2 : b2 < 12) (k3 : b3 < 12) : WM l yX5_lead wsX5_lead ({ frames := 4, cells := 0, slots := 0, locals := 89 } : Room) D (gTys cI cL cZ) [.ref hb, .int (nI b1), .int (nI b2), .int (nI b3)] [(hb, .inr (5, [.ref hp, .ref ht, .ref hg, .ref ha, .ref hq])), (hp, .inr (2, [.ref p0, .ref p1, .ref p2, .ref p3, .ref p4])), (p3, .inl (cI, 24, .inl (fun _ => (-1 : Int32)))), (ha, .inr (0, [.ref a0, .ref a1, .ref a2, .ref a3, .int (0 : Int32), .long (0 : Int64)]))] (fun (_ : Unit) => True) (fun (_ : Unit) => some (.int (0 : Int32))) (fun (_ : Unit) => []) := by
  refine WM.ofG cX5_lead 4 (some .int) (by decide +kernel) rfl (Nat.le_of_ble_eq_true rfl) ?_
  intro p e s m below meth c A hA B hr hlocks hname hK hN
  refine g_iload_n B dX5_lead_0 1 rfl ?_
  refine g_callP (g_runS B (PM.met (k_checkNode_n l (D := D) (cI := cI) (cL := cL) (cZ := cZ) b1 (by omega))) (gPp.pre (av := [.int (nI b1)]) (wc := []) hK hN [] rfl (by decide)) gX5_lead_X5_checkNode rfl kd_X5_checkNode ⟨by decide, by decide⟩ (st := []) rfl (Nat.le_of_ble_eq_true rfl) dX5_lead_1 ⟨by decide, by decide⟩) (fun u hu => ?_)
  refine g_iload_n B dX5_lead_4 2 rfl ?_
  refine g_callP (g_runS B (PM.met (k_checkTarget_n l (D := D) (cI := cI) (cL := cL) (cZ := cZ) b2 (by omega))) (gPp.pre (av := [.int (nI b2)]) (wc := []) hK hN [] rfl (by decide)) gX5_lead_X5_checkTarget rfl kd_X5_checkTarget ⟨by decide, by decide⟩ (st := []) rfl (Nat.le_of_ble_eq_true rfl) dX5_lead_5 ⟨by decide, by decide⟩) (fun u hu => ?_)
  refine g_iload_n B dX5_lead_8 3 rfl ?_
  refine g_callP (g_runS B (PM.met (k_checkTarget_n l (D := D) (cI := cI) (cL := cL) (cZ := cZ) b3 (by omega))) (gPp.pre (av := [.int (nI b3)]) (wc := []) hK hN [] rfl (by decide)) gX5_lead_X5_checkTarget rfl kd_X5_checkTarget ⟨by decide, by decide⟩ (st := []) rfl (Nat.le_of_ble_eq_true rfl) dX5_lead_9 ⟨by decide, by decide⟩) (fun u hu => ?_)
  refine g_aload_n B dX5_lead_12 0 rfl ?_
  refine g_get (C := RX5) (T := TX5) (N := 5) (ci := 5) B hK hin_X5_lead_RX5 0 rfl rfl 0 (by decide) (List.mem_of_getElem? (i := 1) rfl) rfl (v := .ref hp) rfl dX5_lead_13 ?_
  refine g_iload_n B dX5_lead_16 1 rfl ?_
  refine g_iload_n B dX5_lead_17 2 rfl ?_
  refine g_iload_n B dX5_lead_18 3 rfl ?_
  refine g_callW (w2 := (fun (_ : Unit) => [(hb, .inr (5, [.ref hp, .ref ht, .ref hg, .ref ha, .ref hq])), (hp, .inr (2, [.ref p0, .ref p1, .ref p2, .ref p3, .ref p4])), (ha, .inr (0, [.ref a0, .ref a1, .ref a2, .ref a3, .int (0 : Int32), .long (0 : Int64)]))])) (g_runV (q0 := 1) (ci := 2) B hK rfl rfl (k_setTargets l (D := D) (cI := cI) (cL := cL) (cZ := cZ) hp p0 p1 p2 p3 p4 b1 (nI b2) (nI b3) (by omega)) (gPw.pre (av := [.ref hp, .int (nI b1), .int (nI b2), .int (nI b3)]) (wc := [(hp, .inr (2, [.ref p0, .ref p1, .ref p2, .ref p3, .ref p4])), (p3, .inl (cI, 24, .inl (fun _ => (-1 : Int32))))]) hK hN [1, 2] rfl (by decide)) gX5_lead_X2_setTargets rfl rfl kd_X2_setTargets ⟨by decide, by decide⟩ (st := []) rfl (Nat.le_of_ble_eq_true rfl) dX5_lead_19 ⟨by decide, by decide⟩) hA (fun _ h => h) [1, 2] [0, 3] (wr := [(hb, .inr (5, [.ref hp, .ref ht, .ref hg, .ref ha, .ref hq])), (ha, .inr (0, [.ref a0, .ref a1, .ref a2, .ref a3, .int (0 : Int32), .long (0 : Int64)]))]) rfl rfl (by decide) (by decide) [0, 2, 1] (by decide) (fun _ => rfl) (fun u hu => ?_)
  refine g_aload_n B dX5_lead_22 0 rfl ?_
  refine g_callW (w2 := (fun (_ : Unit) => [(hb, .inr (5, [.ref hp, .ref ht, .ref hg, .ref ha, .ref hq])), (hp, .inr (2, [.ref p0, .ref p1, .ref p2, .ref p3, .ref p4]))])) (g_runV (q0 := 0) (ci := 5) B hK rfl rfl (k_keptAfterChange l (D := D) (cI := cI) (cL := cL) (cZ := cZ) hb hp ht hg ha hq a0 a1 a2 a3 ) (gPw.pre (av := [.ref hb]) (wc := [(hb, .inr (5, [.ref hp, .ref ht, .ref hg, .ref ha, .ref hq])), (ha, .inr (0, [.ref a0, .ref a1, .ref a2, .ref a3, .int (0 : Int32), .long (0 : Int64)]))]) hK hN [0, 2] rfl (by decide)) gX5_lead_X5_keptAfterChange rfl rfl kd_X5_keptAfterChange ⟨by decide, by decide⟩ (st := []) rfl (Nat.le_of_ble_eq_true rfl) dX5_lead_23 ⟨by decide, by decide⟩) hA (fun _ h => h) [0, 2] [1] (wr := [(hp, .inr (2, [.ref p0, .ref p1, .ref p2, .ref p3, .ref p4]))]) rfl rfl (by decide) (by decide) [1, 0] (by decide) (fun _ => rfl) (fun u hu => ?_)
  exact g_iret_w B hr rfl hlocks () (rfl) (trivial) [] (by decide) rfl dX5_lead_26

set_option maxHeartbeats 4000000 in
set_option maxRecDepth 100000 in
theorem k_bad_v (l : Launch) {D : va_G} {cI cL cZ : ClassId} (hb : Nat) (hp : Nat) (ht : Nat) (hg : Nat) (ha : Nat) (hq : Nat) (p0 : Nat) (p1 : Nat) (p2 : Nat) (p3 : Nat) (p4 : Nat) (a0 : Nat) (a1 : Nat) (a2 : Nat) (a3 : Nat) (b1 : Nat) (b2 : Int32) (h1 : b1 < 12) : WM l yX5_bad wsX5_bad ({ frames := 4, cells := 0, slots := 0, locals := 89 } : Room) D (gTys cI cL cZ) [.ref hb, .int (nI b1), .int b2] [(hb, .inr (5, [.ref hp, .ref ht, .ref hg, .ref ha, .ref hq])), (hp, .inr (2, [.ref p0, .ref p1, .ref p2, .ref p3, .ref p4])), (p4, .inl (cZ, 12, .inl (fun _ => (0 : Int32)))), (ha, .inr (0, [.ref a0, .ref a1, .ref a2, .ref a3, .int (0 : Int32), .long (0 : Int64)]))] (fun (_ : Unit) => True) (fun (_ : Unit) => some (.int (0 : Int32))) (fun (_ : Unit) => []) := by
  refine WM.ofG cX5_bad 3 (some .int) (by decide +kernel) rfl (Nat.le_of_ble_eq_true rfl) ?_
  intro p e s m below meth c A hA B hr hlocks hname hK hN
  refine g_iload_n B dX5_bad_0 1 rfl ?_
  refine g_callP (g_runS B (PM.met (k_checkNode_n l (D := D) (cI := cI) (cL := cL) (cZ := cZ) b1 (by omega))) (gPp.pre (av := [.int (nI b1)]) (wc := []) hK hN [] rfl (by decide)) gX5_bad_X5_checkNode rfl kd_X5_checkNode ⟨by decide, by decide⟩ (st := []) rfl (Nat.le_of_ble_eq_true rfl) dX5_bad_1 ⟨by decide, by decide⟩) (fun u hu => ?_)
  refine g_aload_n B dX5_bad_4 0 rfl ?_
  refine g_get (C := RX5) (T := TX5) (N := 5) (ci := 5) B hK hin_X5_bad_RX5 0 rfl rfl 0 (by decide) (List.mem_of_getElem? (i := 1) rfl) rfl (v := .ref hp) rfl dX5_bad_5 ?_
  refine g_iload_n B dX5_bad_8 1 rfl ?_
  refine g_iload_n B dX5_bad_9 2 rfl ?_
  refine g_callW (w2 := (fun (_ : Unit) => [(hb, .inr (5, [.ref hp, .ref ht, .ref hg, .ref ha, .ref hq])), (hp, .inr (2, [.ref p0, .ref p1, .ref p2, .ref p3, .ref p4])), (ha, .inr (0, [.ref a0, .ref a1, .ref a2, .ref a3, .int (0 : Int32), .long (0 : Int64)]))])) (g_runV (q0 := 1) (ci := 2) B hK rfl rfl (k_setBad l (D := D) (cI := cI) (cL := cL) (cZ := cZ) hp p0 p1 p2 p3 p4 b1 b2 (by omega)) (gPw.pre (av := [.ref hp, .int (nI b1), .int b2]) (wc := [(hp, .inr (2, [.ref p0, .ref p1, .ref p2, .ref p3, .ref p4])), (p4, .inl (cZ, 12, .inl (fun _ => (0 : Int32))))]) hK hN [1, 2] rfl (by decide)) gX5_bad_X2_setBad rfl rfl kd_X2_setBad ⟨by decide, by decide⟩ (st := []) rfl (Nat.le_of_ble_eq_true rfl) dX5_bad_10 ⟨by decide, by decide⟩) hA (fun _ h => h) [1, 2] [0, 3] (wr := [(hb, .inr (5, [.ref hp, .ref ht, .ref hg, .ref ha, .ref hq])), (ha, .inr (0, [.ref a0, .ref a1, .ref a2, .ref a3, .int (0 : Int32), .long (0 : Int64)]))]) rfl rfl (by decide) (by decide) [0, 2, 1] (by decide) (fun _ => rfl) (fun u hu => ?_)
  refine g_aload_n B dX5_bad_13 0 rfl ?_
  refine g_callW (w2 := (fun (_ : Unit) => [(hb, .inr (5, [.ref hp, .ref ht, .ref hg, .ref ha, .ref hq])), (hp, .inr (2, [.ref p0, .ref p1, .ref p2, .ref p3, .ref p4]))])) (g_runV (q0 := 0) (ci := 5) B hK rfl rfl (k_keptAfterChange l (D := D) (cI := cI) (cL := cL) (cZ := cZ) hb hp ht hg ha hq a0 a1 a2 a3 ) (gPw.pre (av := [.ref hb]) (wc := [(hb, .inr (5, [.ref hp, .ref ht, .ref hg, .ref ha, .ref hq])), (ha, .inr (0, [.ref a0, .ref a1, .ref a2, .ref a3, .int (0 : Int32), .long (0 : Int64)]))]) hK hN [0, 2] rfl (by decide)) gX5_bad_X5_keptAfterChange rfl rfl kd_X5_keptAfterChange ⟨by decide, by decide⟩ (st := []) rfl (Nat.le_of_ble_eq_true rfl) dX5_bad_14 ⟨by decide, by decide⟩) hA (fun _ h => h) [0, 2] [1] (wr := [(hp, .inr (2, [.ref p0, .ref p1, .ref p2, .ref p3, .ref p4]))]) rfl rfl (by decide) (by decide) [1, 0] (by decide) (fun _ => rfl) (fun u hu => ?_)
  exact g_iret_w B hr rfl hlocks () (rfl) (trivial) [] (by decide) rfl dX5_bad_17

set_option maxHeartbeats 4000000 in
set_option maxRecDepth 100000 in
theorem k_run_v (l : Launch) {D : va_G} {cI cL cZ : ClassId} (hb : Nat) (hp : Nat) (ht : Nat) (hg : Nat) (ha : Nat) (hq : Nat) (p0 : Nat) (p1 : Nat) (p2 : Nat) (p3 : Nat) (p4 : Nat) (t0 : Nat) (fp : Nat → Int32) (ts : Int32) (tr : Int32) (tf : Int64) (t : Nat) (ht1 : t < 10000) : WM l yX5_run wsX5_run ({ frames := 4, cells := 0, slots := 0, locals := 90 } : Room) D (gTys cI cL cZ) [.ref hb, .int (nI t)] [(hb, .inr (5, [.ref hp, .ref ht, .ref hg, .ref ha, .ref hq])), (hp, .inr (2, [.ref p0, .ref p1, .ref p2, .ref p3, .ref p4])), (p0, .inl (cI, 12, .inl (fun _ => (0 : Int32)))), (p1, .inl (cI, 12, .inl (fun _ => (0 : Int32)))), (p2, .inl (cI, 12, .inl (fun _ => (0 : Int32)))), (p3, .inl (cI, 24, .inl (fun _ => (-1 : Int32)))), (p4, .inl (cZ, 12, .inl (fun _ => (0 : Int32)))), (ht, .inr (4, [.ref t0, .int ts, .int tr, .long tf])), (t0, .inl (cI, 30, .inl fp))] (fun (fp2 : Nat → Int32) => True) (fun (fp2 : Nat → Int32) => some (.int (1 : Int32))) (fun (fp2 : Nat → Int32) => [(hb, .inr (5, [.ref hp, .ref ht, .ref hg, .ref ha, .ref hq])), (hp, .inr (2, [.ref p0, .ref p1, .ref p2, .ref p3, .ref p4])), (p0, .inl (cI, 12, .inl (fun _ => (0 : Int32)))), (p1, .inl (cI, 12, .inl (fun _ => (0 : Int32)))), (p2, .inl (cI, 12, .inl (fun _ => (0 : Int32)))), (p3, .inl (cI, 24, .inl (fun _ => (-1 : Int32)))), (p4, .inl (cZ, 12, .inl (fun _ => (0 : Int32)))), (ht, .inr (4, [.ref t0, .int (1 : Int32), .int (1 : Int32), .long (2 : Int64)])), (t0, .inl (cI, 30, .inl fp2))]) := by
  refine WM.ofG cX5_run 2 (some .int) (by decide +kernel) rfl (Nat.le_of_ble_eq_true rfl) ?_
  intro p e s m below meth c A hA B hr hlocks hname hK hN
  refine g_iload_n B dX5_run_0 1 rfl ?_
  refine g_callP (g_runS B (PM.met (k_checkCase_n l (D := D) (cI := cI) (cL := cL) (cZ := cZ) t (by omega))) (gPp.pre (av := [.int (nI t)]) (wc := []) hK hN [] rfl (by decide)) gX5_run_X5_checkCase rfl kd_X5_checkCase ⟨by decide, by decide⟩ (st := []) rfl (Nat.le_of_ble_eq_true rfl) dX5_run_1 ⟨by decide, by decide⟩) (fun u hu => ?_)
  refine g_aload_n B dX5_run_4 0 rfl ?_
  refine g_iload_n B dX5_run_5 1 rfl ?_
  refine g_callW (w2 := (fun (fp2_2 : Nat → Int32) => [(hb, .inr (5, [.ref hp, .ref ht, .ref hg, .ref ha, .ref hq])), (hp, .inr (2, [.ref p0, .ref p1, .ref p2, .ref p3, .ref p4])), (p0, .inl (cI, 12, .inl (fun _ => (0 : Int32)))), (p1, .inl (cI, 12, .inl (fun _ => (0 : Int32)))), (p2, .inl (cI, 12, .inl (fun _ => (0 : Int32)))), (p3, .inl (cI, 24, .inl (fun _ => (-1 : Int32)))), (p4, .inl (cZ, 12, .inl (fun _ => (0 : Int32)))), (ht, .inr (4, [.ref t0, .int (1 : Int32), .int (1 : Int32), .long (2 : Int64)])), (t0, .inl (cI, 30, .inl fp2_2))])) (g_runV (q0 := 0) (ci := 5) B hK rfl rfl (k_resultOf l (D := D) (cI := cI) (cL := cL) (cZ := cZ) hb hg ha hq hp p0 p1 p2 p3 p4 ht t0 fp ts tr tf t (by omega)) (gPw.pre (av := [.ref hb, .int (nI t)]) (wc := [(hb, .inr (5, [.ref hp, .ref ht, .ref hg, .ref ha, .ref hq])), (hp, .inr (2, [.ref p0, .ref p1, .ref p2, .ref p3, .ref p4])), (p0, .inl (cI, 12, .inl (fun _ => (0 : Int32)))), (p1, .inl (cI, 12, .inl (fun _ => (0 : Int32)))), (p2, .inl (cI, 12, .inl (fun _ => (0 : Int32)))), (p3, .inl (cI, 24, .inl (fun _ => (-1 : Int32)))), (p4, .inl (cZ, 12, .inl (fun _ => (0 : Int32)))), (ht, .inr (4, [.ref t0, .int ts, .int tr, .long tf])), (t0, .inl (cI, 30, .inl fp))]) hK hN [0, 1, 2, 3, 4, 5, 6, 7, 8] rfl (by decide)) gX5_run_X5_resultOf rfl rfl kd_X5_resultOf ⟨by decide, by decide⟩ (st := []) rfl (Nat.le_of_ble_eq_true rfl) dX5_run_6 ⟨by decide, by decide⟩) hA (fun _ h => h) [0, 1, 2, 3, 4, 5, 6, 7, 8] [] (wr := []) rfl rfl (by decide) (by decide) [0, 1, 2, 3, 4, 5, 6, 7, 8] (by decide) (fun _ => rfl) (fun u hu => ?_)
  obtain ⟨fp2_2, e9⟩ : ∃ z, z = u := ⟨_, rfl⟩; subst e9
  try dsimp only at hu ⊢
  exact g_iret_w B hr rfl hlocks fp2_2 (rfl) (trivial) [0, 1, 2, 3, 4, 5, 6, 7, 8] (by decide) rfl dX5_run_9

set_option maxHeartbeats 4000000 in
set_option maxRecDepth 100000 in
theorem k_covers_v (l : Launch) {D : va_G} {cI cL cZ : ClassId} (hb : Nat) (hp : Nat) (ht : Nat) (hg : Nat) (ha : Nat) (hq : Nat) (p0 : Nat) (p1 : Nat) (p2 : Nat) (p3 : Nat) (p4 : Nat) (t0 : Nat) (fp : Nat → Int32) (ts : Int32) (tr : Int32) (tf : Int64) (t : Nat) (ht1 : t < 10000) : WM l yX5_covers wsX5_covers ({ frames := 3, cells := 0, slots := 0, locals := 69 } : Room) D (gTys cI cL cZ) [.ref hb, .int (nI t)] [(hb, .inr (5, [.ref hp, .ref ht, .ref hg, .ref ha, .ref hq])), (hp, .inr (2, [.ref p0, .ref p1, .ref p2, .ref p3, .ref p4])), (p0, .inl (cI, 12, .inl (fun _ => (0 : Int32)))), (p1, .inl (cI, 12, .inl (fun _ => (0 : Int32)))), (p2, .inl (cI, 12, .inl (fun _ => (0 : Int32)))), (p3, .inl (cI, 24, .inl (fun _ => (-1 : Int32)))), (p4, .inl (cZ, 12, .inl (fun _ => (0 : Int32)))), (ht, .inr (4, [.ref t0, .int ts, .int tr, .long tf])), (t0, .inl (cI, 30, .inl fp))] (fun (fp2 : Nat → Int32) => True) (fun (fp2 : Nat → Int32) => some (.int (1 : Int32))) (fun (fp2 : Nat → Int32) => [(hb, .inr (5, [.ref hp, .ref ht, .ref hg, .ref ha, .ref hq])), (hp, .inr (2, [.ref p0, .ref p1, .ref p2, .ref p3, .ref p4])), (p0, .inl (cI, 12, .inl (fun _ => (0 : Int32)))), (p1, .inl (cI, 12, .inl (fun _ => (0 : Int32)))), (p2, .inl (cI, 12, .inl (fun _ => (0 : Int32)))), (p3, .inl (cI, 24, .inl (fun _ => (-1 : Int32)))), (p4, .inl (cZ, 12, .inl (fun _ => (0 : Int32)))), (ht, .inr (4, [.ref t0, .int (1 : Int32), .int (1 : Int32), .long (2 : Int64)])), (t0, .inl (cI, 30, .inl fp2))]) := by
  refine WM.ofG cX5_covers 2 (some .int) (by decide +kernel) rfl (Nat.le_of_ble_eq_true rfl) ?_
  intro p e s m below meth c A hA B hr hlocks hname hK hN
  refine g_iload_n B dX5_covers_0 1 rfl ?_
  refine g_callP (g_runS B (PM.met (k_checkCase_n l (D := D) (cI := cI) (cL := cL) (cZ := cZ) t (by omega))) (gPp.pre (av := [.int (nI t)]) (wc := []) hK hN [] rfl (by decide)) gX5_covers_X5_checkCase rfl kd_X5_checkCase ⟨by decide, by decide⟩ (st := []) rfl (Nat.le_of_ble_eq_true rfl) dX5_covers_1 ⟨by decide, by decide⟩) (fun u hu => ?_)
  refine g_aload_n B dX5_covers_4 0 rfl ?_
  refine g_get (C := RX5) (T := TX5) (N := 5) (ci := 5) B hK hin_X5_covers_RX5 0 rfl rfl 0 (by decide) (List.mem_of_getElem? (i := 1) rfl) rfl (v := .ref hp) rfl dX5_covers_5 ?_
  refine g_iload_n B dX5_covers_8 1 rfl ?_
  refine g_aload_n B dX5_covers_9 0 rfl ?_
  refine g_get (C := RX5) (T := TX5) (N := 5) (ci := 5) B hK hin_X5_covers_RX5 0 rfl rfl 1 (by decide) (List.mem_of_getElem? (i := 2) rfl) rfl (v := .ref ht) rfl dX5_covers_10 ?_
  refine g_callW (w2 := (fun (fp2_2 : Nat → Int32) => [(hb, .inr (5, [.ref hp, .ref ht, .ref hg, .ref ha, .ref hq])), (hp, .inr (2, [.ref p0, .ref p1, .ref p2, .ref p3, .ref p4])), (p0, .inl (cI, 12, .inl (fun _ => (0 : Int32)))), (p1, .inl (cI, 12, .inl (fun _ => (0 : Int32)))), (p2, .inl (cI, 12, .inl (fun _ => (0 : Int32)))), (p3, .inl (cI, 24, .inl (fun _ => (-1 : Int32)))), (p4, .inl (cZ, 12, .inl (fun _ => (0 : Int32)))), (ht, .inr (4, [.ref t0, .int (1 : Int32), .int (1 : Int32), .long (2 : Int64)])), (t0, .inl (cI, 30, .inl fp2_2))])) (g_runV (q0 := 1) (ci := 2) B hK rfl rfl (k_follow l (D := D) (cI := cI) (cL := cL) (cZ := cZ) hp p0 p1 p2 p3 p4 ht t0 fp ts tr tf t (by omega)) (gPw.pre (av := [.ref hp, .int (nI t), .ref ht]) (wc := [(hp, .inr (2, [.ref p0, .ref p1, .ref p2, .ref p3, .ref p4])), (p0, .inl (cI, 12, .inl (fun _ => (0 : Int32)))), (p1, .inl (cI, 12, .inl (fun _ => (0 : Int32)))), (p2, .inl (cI, 12, .inl (fun _ => (0 : Int32)))), (p3, .inl (cI, 24, .inl (fun _ => (-1 : Int32)))), (p4, .inl (cZ, 12, .inl (fun _ => (0 : Int32)))), (ht, .inr (4, [.ref t0, .int ts, .int tr, .long tf])), (t0, .inl (cI, 30, .inl fp))]) hK hN [1, 2, 3, 4, 5, 6, 7, 8] rfl (by decide)) gX5_covers_X2_follow rfl rfl kd_X2_follow ⟨by decide, by decide⟩ (st := []) rfl (Nat.le_of_ble_eq_true rfl) dX5_covers_13 ⟨by decide, by decide⟩) hA (fun _ h => h) [1, 2, 3, 4, 5, 6, 7, 8] [0] (wr := [(hb, .inr (5, [.ref hp, .ref ht, .ref hg, .ref ha, .ref hq]))]) rfl rfl (by decide) (by decide) [0, 1, 2, 3, 4, 5, 6, 7, 8] (by decide) (fun _ => rfl) (fun u hu => ?_)
  obtain ⟨fp2_2, e9⟩ : ∃ z, z = u := ⟨_, rfl⟩; subst e9
  try dsimp only at hu ⊢
  have hu2 := hu
  refine g_aload_n B dX5_covers_16 0 rfl ?_
  refine g_get (C := RX5) (T := TX5) (N := 5) (ci := 5) B hK hin_X5_covers_RX5 0 rfl rfl 1 (by decide) (List.mem_of_getElem? (i := 2) rfl) rfl (v := .ref ht) rfl dX5_covers_17 ?_
  refine g_getN (C := RX4) (T := TX4) (N := 4) (ci := 4) B hK hin_X5_covers_RX4 7 rfl rfl 3 (by decide) hN 0 rfl rfl (v := .long (2 : Int64)) rfl dX5_covers_20 ?_
  refine g_callP (g_runS B (PM.met (c_edgesIn_2 l (D := D) (cI := cI) (cL := cL) (cZ := cZ)  )) (gPp.pre (av := [.long (2 : Int64)]) (wc := []) hK hN [] rfl (by decide)) gX5_covers_X5_edgesIn rfl kd_X5_edgesIn ⟨by decide, by decide⟩ (st := []) rfl (Nat.le_of_ble_eq_true rfl) dX5_covers_23 ⟨by decide, by decide⟩) (fun u hu => ?_)
  exact g_iret_w B hr rfl hlocks fp2_2 (rfl) (trivial) [0, 1, 2, 3, 4, 5, 6, 7, 8] (by decide) rfl dX5_covers_26

set_option maxHeartbeats 4000000 in
set_option maxRecDepth 100000 in
theorem k_edge_v (l : Launch) {D : va_G} {cI cL cZ : ClassId} (hb : Nat) (hp : Nat) (ht : Nat) (hg : Nat) (ha : Nat) (hq : Nat) (p0 : Nat) (p1 : Nat) (p2 : Nat) (p3 : Nat) (p4 : Nat) (t0 : Nat) (fp : Nat → Int32) (ts : Int32) (tr : Int32) (tf : Int64) (t : Nat) (ht1 : t < 10000) : WM l yX5_edge wsX5_edge ({ frames := 3, cells := 0, slots := 0, locals := 69 } : Room) D (gTys cI cL cZ) [.ref hb, .int (nI t), .int (0 : Int32)] [(hb, .inr (5, [.ref hp, .ref ht, .ref hg, .ref ha, .ref hq])), (hp, .inr (2, [.ref p0, .ref p1, .ref p2, .ref p3, .ref p4])), (p0, .inl (cI, 12, .inl (fun _ => (0 : Int32)))), (p1, .inl (cI, 12, .inl (fun _ => (0 : Int32)))), (p2, .inl (cI, 12, .inl (fun _ => (0 : Int32)))), (p3, .inl (cI, 24, .inl (fun _ => (-1 : Int32)))), (p4, .inl (cZ, 12, .inl (fun _ => (0 : Int32)))), (ht, .inr (4, [.ref t0, .int ts, .int tr, .long tf])), (t0, .inl (cI, 30, .inl fp))] (fun (_ : Unit) => True) (fun (_ : Unit) => some (.int (1 : Int32))) (fun (_ : Unit) => []) := by
  refine WM.ofG cX5_edge 3 (some .int) (by decide +kernel) rfl (Nat.le_of_ble_eq_true rfl) ?_
  intro p e s m below meth c A hA B hr hlocks hname hK hN
  refine g_iload_n B dX5_edge_0 1 rfl ?_
  refine g_callP (g_runS B (PM.met (k_checkCase_n l (D := D) (cI := cI) (cL := cL) (cZ := cZ) t (by omega))) (gPp.pre (av := [.int (nI t)]) (wc := []) hK hN [] rfl (by decide)) gX5_edge_X5_checkCase rfl kd_X5_checkCase ⟨by decide, by decide⟩ (st := []) rfl (Nat.le_of_ble_eq_true rfl) dX5_edge_1 ⟨by decide, by decide⟩) (fun u hu => ?_)
  refine g_aload_n B dX5_edge_4 0 rfl ?_
  refine g_get (C := RX5) (T := TX5) (N := 5) (ci := 5) B hK hin_X5_edge_RX5 0 rfl rfl 0 (by decide) (List.mem_of_getElem? (i := 3) rfl) rfl (v := .ref hp) rfl dX5_edge_5 ?_
  refine g_iload_n B dX5_edge_8 1 rfl ?_
  refine g_aload_n B dX5_edge_9 0 rfl ?_
  refine g_get (C := RX5) (T := TX5) (N := 5) (ci := 5) B hK hin_X5_edge_RX5 0 rfl rfl 1 (by decide) (List.mem_of_getElem? (i := 4) rfl) rfl (v := .ref ht) rfl dX5_edge_10 ?_
  refine g_callW (w2 := (fun (fp2_2 : Nat → Int32) => [(hb, .inr (5, [.ref hp, .ref ht, .ref hg, .ref ha, .ref hq])), (hp, .inr (2, [.ref p0, .ref p1, .ref p2, .ref p3, .ref p4])), (p0, .inl (cI, 12, .inl (fun _ => (0 : Int32)))), (p1, .inl (cI, 12, .inl (fun _ => (0 : Int32)))), (p2, .inl (cI, 12, .inl (fun _ => (0 : Int32)))), (p3, .inl (cI, 24, .inl (fun _ => (-1 : Int32)))), (p4, .inl (cZ, 12, .inl (fun _ => (0 : Int32)))), (ht, .inr (4, [.ref t0, .int (1 : Int32), .int (1 : Int32), .long (2 : Int64)])), (t0, .inl (cI, 30, .inl fp2_2))])) (g_runV (q0 := 1) (ci := 2) B hK rfl rfl (k_follow l (D := D) (cI := cI) (cL := cL) (cZ := cZ) hp p0 p1 p2 p3 p4 ht t0 fp ts tr tf t (by omega)) (gPw.pre (av := [.ref hp, .int (nI t), .ref ht]) (wc := [(hp, .inr (2, [.ref p0, .ref p1, .ref p2, .ref p3, .ref p4])), (p0, .inl (cI, 12, .inl (fun _ => (0 : Int32)))), (p1, .inl (cI, 12, .inl (fun _ => (0 : Int32)))), (p2, .inl (cI, 12, .inl (fun _ => (0 : Int32)))), (p3, .inl (cI, 24, .inl (fun _ => (-1 : Int32)))), (p4, .inl (cZ, 12, .inl (fun _ => (0 : Int32)))), (ht, .inr (4, [.ref t0, .int ts, .int tr, .long tf])), (t0, .inl (cI, 30, .inl fp))]) hK hN [1, 2, 3, 4, 5, 6, 7, 8] rfl (by decide)) gX5_edge_X2_follow rfl rfl kd_X2_follow ⟨by decide, by decide⟩ (st := []) rfl (Nat.le_of_ble_eq_true rfl) dX5_edge_13 ⟨by decide, by decide⟩) hA (fun _ h => h) [1, 2, 3, 4, 5, 6, 7, 8] [0] (wr := [(hb, .inr (5, [.ref hp, .ref ht, .ref hg, .ref ha, .ref hq]))]) rfl rfl (by decide) (by decide) [0, 1, 2, 3, 4, 5, 6, 7, 8] (by decide) (fun _ => rfl) (fun u hu => ?_)
  obtain ⟨fp2_2, e9⟩ : ∃ z, z = u := ⟨_, rfl⟩; subst e9
  try dsimp only at hu ⊢
  have hu2 := hu
  refine g_iload_n B dX5_edge_16 2 rfl ?_
  refine g_if_lt (tgt := 37) B dX5_edge_17 (by decide) (fun c3 => absurd c3 (by decide)) (fun _ => ?_)
  refine g_iload_n B dX5_edge_20 2 rfl ?_
  refine g_aload_n B dX5_edge_21 0 rfl ?_
  refine g_get (C := RX5) (T := TX5) (N := 5) (ci := 5) B hK hin_X5_edge_RX5 0 rfl rfl 1 (by decide) (List.mem_of_getElem? (i := 4) rfl) rfl (v := .ref ht) rfl dX5_edge_22 ?_
  refine g_getN (C := RX4) (T := TX4) (N := 4) (ci := 4) B hK hin_X5_edge_RX4 7 rfl rfl 1 (by decide) hN 13 rfl rfl (v := .int (1 : Int32)) rfl dX5_edge_25 ?_
  refine g_icmp_ge (tgt := 37) B dX5_edge_28 (by decide) (fun c4 => absurd c4 (by decide)) (fun _ => ?_)
  refine g_iload_n B dX5_edge_31 2 rfl ?_
  refine g_bipush (v := (30 : Int32)) B dX5_edge_32 (by decide) ?_
  refine g_icmp_lt (tgt := 47) B dX5_edge_34 (by decide) (fun _ => ?_) (fun c5 => absurd (by decide) c5)
  refine g_aload_n B dX5_edge_47 0 rfl ?_
  refine g_get (C := RX5) (T := TX5) (N := 5) (ci := 5) B hK hin_X5_edge_RX5 0 rfl rfl 1 (by decide) (List.mem_of_getElem? (i := 4) rfl) rfl (v := .ref ht) rfl dX5_edge_48 ?_
  refine g_getN (C := RX4) (T := TX4) (N := 4) (ci := 4) B hK hin_X5_edge_RX4 7 rfl rfl 0 (by decide) hN 14 rfl rfl (v := .ref t0) rfl dX5_edge_51 ?_
  refine g_iload_n B dX5_edge_54 2 rfl ?_
  refine g_iald B hK 8 0 rfl rfl 0 rfl (by omega) (by omega) (v := (fp2_2 0)) rfl dX5_edge_55 ?_
  exact g_iret_w B hr rfl hlocks () (by rw [show (fp2_2 0) = 1 from by assumption]) (trivial) [] (by decide) rfl dX5_edge_56

set_option maxHeartbeats 4000000 in
set_option maxRecDepth 100000 in
theorem k_weights_v (l : Launch) {D : va_G} {cI cL cZ : ClassId} (hb : Nat) (hp : Nat) (ht : Nat) (hg : Nat) (ha : Nat) (hq : Nat) (g0 : Nat) (g1 : Nat) (g2 : Nat) (b1 : Nat) (b2 : Nat) (b3 : Nat) (b4 : Nat) (h1 : b1 < 4) (h2 : b2 < 10) (h3 : b3 < 10) (h4 : b4 < 10) : WM l yX5_weights wsX5_weights ({ frames := 1, cells := 0, slots := 0, locals := 24 } : Room) D (gTys cI cL cZ) [.ref hb, .int (nI b1), .int (nI b2), .int (nI b3), .int (nI b4)] [(hb, .inr (5, [.ref hp, .ref ht, .ref hg, .ref ha, .ref hq])), (hg, .inr (1, [.ref g0, .ref g1, .ref g2, .int (1 : Int32)])), (g0, .inl (cI, 4, .inl (fun _ => (1 : Int32)))), (g1, .inl (cI, 4, .inl (fun _ => (1 : Int32)))), (g2, .inl (cI, 4, .inl (fun _ => (1 : Int32))))] (fun (_ : Unit) => True) (fun (_ : Unit) => some (.int (3 : Int32))) (fun (_ : Unit) => []) := by
  refine WM.ofG cX5_weights 6 (some .int) (by decide +kernel) rfl (Nat.le_of_ble_eq_true rfl) ?_
  intro p e s m below meth c A hA B hr hlocks hname hK hN
  refine g_iload_n B dX5_weights_0 1 rfl ?_
  refine g_callP (g_runS B (PM.met (k_checkSlot_n l (D := D) (cI := cI) (cL := cL) (cZ := cZ) b1 (by omega))) (gPp.pre (av := [.int (nI b1)]) (wc := []) hK hN [] rfl (by decide)) gX5_weights_X5_checkSlot rfl kd_X5_checkSlot ⟨by decide, by decide⟩ (st := []) rfl (Nat.le_of_ble_eq_true rfl) dX5_weights_1 ⟨by decide, by decide⟩) (fun u hu => ?_)
  refine g_iload_n B dX5_weights_4 2 rfl ?_
  refine g_callP (g_runS B (PM.met (k_checkWeight_n l (D := D) (cI := cI) (cL := cL) (cZ := cZ) b2 (by omega))) (gPp.pre (av := [.int (nI b2)]) (wc := []) hK hN [] rfl (by decide)) gX5_weights_X5_checkWeight rfl kd_X5_checkWeight ⟨by decide, by decide⟩ (st := []) rfl (Nat.le_of_ble_eq_true rfl) dX5_weights_5 ⟨by decide, by decide⟩) (fun u hu => ?_)
  refine g_iload_n B dX5_weights_8 3 rfl ?_
  refine g_callP (g_runS B (PM.met (k_checkWeight_n l (D := D) (cI := cI) (cL := cL) (cZ := cZ) b3 (by omega))) (gPp.pre (av := [.int (nI b3)]) (wc := []) hK hN [] rfl (by decide)) gX5_weights_X5_checkWeight rfl kd_X5_checkWeight ⟨by decide, by decide⟩ (st := []) rfl (Nat.le_of_ble_eq_true rfl) dX5_weights_9 ⟨by decide, by decide⟩) (fun u hu => ?_)
  refine g_iload B dX5_weights_12 4 rfl ?_
  refine g_callP (g_runS B (PM.met (k_checkWeight_n l (D := D) (cI := cI) (cL := cL) (cZ := cZ) b4 (by omega))) (gPp.pre (av := [.int (nI b4)]) (wc := []) hK hN [] rfl (by decide)) gX5_weights_X5_checkWeight rfl kd_X5_checkWeight ⟨by decide, by decide⟩ (st := []) rfl (Nat.le_of_ble_eq_true rfl) dX5_weights_14 ⟨by decide, by decide⟩) (fun u hu => ?_)
  refine g_aload_n B dX5_weights_17 0 rfl ?_
  refine g_get (C := RX5) (T := TX5) (N := 5) (ci := 5) B hK hin_X5_weights_RX5 0 rfl rfl 2 (by decide) (List.mem_of_getElem? (i := 1) rfl) rfl (v := .ref hg) rfl dX5_weights_18 ?_
  refine g_iload_n B dX5_weights_21 1 rfl ?_
  refine g_callP (g_runV (q0 := 1) (ci := 1) B hK rfl rfl (PM.met (k_weightOf l (D := D) (cI := cI) (cL := cL) (cZ := cZ) hg g0 g1 g2 (1 : Int32) b1 (by omega))) (gPp.pre (av := [.ref hg, .int (nI b1)]) (wc := [(hg, .inr (1, [.ref g0, .ref g1, .ref g2, .int (1 : Int32)])), (g0, .inl (cI, 4, .inl (fun _ => (1 : Int32)))), (g1, .inl (cI, 4, .inl (fun _ => (1 : Int32)))), (g2, .inl (cI, 4, .inl (fun _ => (1 : Int32))))]) hK hN [1, 2, 3, 4] rfl (by decide)) gX5_weights_X1_weightOf rfl rfl kd_X1_weightOf ⟨by decide, by decide⟩ (st := []) rfl (Nat.le_of_ble_eq_true rfl) dX5_weights_22 ⟨by decide, by decide⟩) (fun u hu => ?_)
  refine g_istore (lv' := [(0, .ref hb), (1, .int (nI b1)), (2, .int (nI b2)), (3, .int (nI b3)), (4, .int (nI b4)), (5, .int (3 : Int32))]) B dX5_weights_25 (by decide) [1, 2, 3, 4, 5, 0] rfl ?_
  refine g_aload_n B dX5_weights_27 0 rfl ?_
  refine g_get (C := RX5) (T := TX5) (N := 5) (ci := 5) B hK hin_X5_weights_RX5 0 rfl rfl 2 (by decide) (List.mem_of_getElem? (i := 1) rfl) rfl (v := .ref hg) rfl dX5_weights_28 ?_
  refine g_iload_n B dX5_weights_31 1 rfl ?_
  refine g_iload_n B dX5_weights_32 2 rfl ?_
  refine g_iload_n B dX5_weights_33 3 rfl ?_
  refine g_iload B dX5_weights_34 4 rfl ?_
  refine g_callW (w2 := (fun (_ : Unit) => [(hb, .inr (5, [.ref hp, .ref ht, .ref hg, .ref ha, .ref hq])), (hg, .inr (1, [.ref g0, .ref g1, .ref g2, .int (1 : Int32)]))])) (g_runV (q0 := 1) (ci := 1) B hK rfl rfl (k_setWeights l (D := D) (cI := cI) (cL := cL) (cZ := cZ) hg g0 g1 g2 (1 : Int32) b1 (nI b2) (nI b3) (nI b4) (by omega)) (gPw.pre (av := [.ref hg, .int (nI b1), .int (nI b2), .int (nI b3), .int (nI b4)]) (wc := [(hg, .inr (1, [.ref g0, .ref g1, .ref g2, .int (1 : Int32)])), (g0, .inl (cI, 4, .inl (fun _ => (1 : Int32)))), (g1, .inl (cI, 4, .inl (fun _ => (1 : Int32)))), (g2, .inl (cI, 4, .inl (fun _ => (1 : Int32))))]) hK hN [1, 2, 3, 4] rfl (by decide)) gX5_weights_X1_setWeights rfl rfl kd_X1_setWeights ⟨by decide, by decide⟩ (st := []) rfl (Nat.le_of_ble_eq_true rfl) dX5_weights_36 ⟨by decide, by decide⟩) hA (fun _ h => h) [1, 2, 3, 4] [0] (wr := [(hb, .inr (5, [.ref hp, .ref ht, .ref hg, .ref ha, .ref hq]))]) rfl rfl (by decide) (by decide) [0, 1] (by decide) (fun _ => rfl) (fun u hu => ?_)
  refine g_iload B dX5_weights_39 5 rfl ?_
  exact g_iret_w B hr rfl hlocks () (rfl) (trivial) [] (by decide) rfl dX5_weights_41

set_option maxHeartbeats 4000000 in
set_option maxRecDepth 100000 in
theorem k_draw_v (l : Launch) {D : va_G} {cI cL cZ : ClassId} (hb : Nat) (hp : Nat) (ht : Nat) (hg : Nat) (ha : Nat) (hq : Nat) (g0 : Nat) (g1 : Nat) (g2 : Nat) (b1 : Nat) (h1 : b1 < 10000) : WM l yX5_draw wsX5_draw ({ frames := 0, cells := 0, slots := 0, locals := 0 } : Room) D (gTys cI cL cZ) [.ref hb, .int (nI b1)] [(hb, .inr (5, [.ref hp, .ref ht, .ref hg, .ref ha, .ref hq])), (hg, .inr (1, [.ref g0, .ref g1, .ref g2, .int (1 : Int32)]))] (fun (_ : Unit) => True) (fun (_ : Unit) => some (.int (1 : Int32))) (fun (_ : Unit) => []) := by
  refine WM.ofG cX5_draw 3 (some .int) (by decide +kernel) rfl (Nat.le_of_ble_eq_true rfl) ?_
  intro p e s m below meth c A hA B hr hlocks hname hK hN
  refine g_iload_n B dX5_draw_0 1 rfl ?_
  refine g_nif_lt (tgt := 11) B b1 rfl (by omega) dX5_draw_1 (by decide) ?_
  refine g_iload_n B dX5_draw_4 1 rfl ?_
  refine g_sipush (v := (10000 : Int32)) B dX5_draw_5 (by decide) ?_
  refine g_ncmp_lt (tgt := 21) B b1 10000 rfl rfl (by omega) (by omega) dX5_draw_8 (by decide) (fun c1 => ?_) (fun c1 => ?_)
  rotate_left; · exfalso; omega
  refine g_aload_n B dX5_draw_21 0 rfl ?_
  refine g_get (C := RX5) (T := TX5) (N := 5) (ci := 5) B hK hin_X5_draw_RX5 0 rfl rfl 2 (by decide) (List.mem_of_getElem? (i := 3) rfl) rfl (v := .ref hg) rfl dX5_draw_22 ?_
  refine g_getN (C := RX1) (T := TX1) (N := 4) (ci := 1) B hK hin_X5_draw_RX1 1 rfl rfl 3 (by decide) hN 1 rfl rfl (v := .int (1 : Int32)) rfl dX5_draw_25 ?_
  refine g_istore_n (lv' := [(0, .ref hb), (1, .int (nI b1)), (2, .int (1 : Int32))]) B dX5_draw_28 rfl (by decide) [1, 2, 0] rfl ?_
  refine g_aload_n B dX5_draw_29 0 rfl ?_
  refine g_get (C := RX5) (T := TX5) (N := 5) (ci := 5) B hK hin_X5_draw_RX5 0 rfl rfl 2 (by decide) (List.mem_of_getElem? (i := 3) rfl) rfl (v := .ref hg) rfl dX5_draw_30 ?_
  refine g_iload_n B dX5_draw_33 1 rfl ?_
  refine g_putN (C := RX1) (T := TX1) (N := 4) (ci := 1) B hK hin_X5_draw_RX1 1 rfl rfl 3 (by decide) tyX1 tyX1_ok nmX1 hN 1 rfl rfl rfl (ty := .int) (v := .int (nI b1)) (by decide +kernel) rfl rfl (Nat.le_of_ble_eq_true rfl) (w2 := [(hb, .inr (5, [.ref hp, .ref ht, .ref hg, .ref ha, .ref hq])), (hg, .inr (1, [.ref g0, .ref g1, .ref g2, .int (nI b1)]))]) rfl (fun _ h => h) dX5_draw_34 ?_
  refine g_iload_n B dX5_draw_37 2 rfl ?_
  exact g_iret_w B hr rfl hlocks () (rfl) (trivial) [] (by decide) rfl dX5_draw_38

set_option maxHeartbeats 4000000 in
set_option maxRecDepth 100000 in
theorem k_generate_v (l : Launch) {D : va_G} {cI cL cZ : ClassId} (hb : Nat) (hp : Nat) (ht : Nat) (hg : Nat) (ha : Nat) (hq : Nat) (p0 : Nat) (p1 : Nat) (p2 : Nat) (p3 : Nat) (p4 : Nat) (t0 : Nat) (fp : Nat → Int32) (ts : Int32) (tr : Int32) (tf : Int64) (g0 : Nat) (g1 : Nat) (g2 : Nat) (a0 : Nat) (a1 : Nat) (a2 : Nat) (a3 : Nat) (fa0 : Nat → Int32) (fa1 : Nat → Int32) (fa3 : Nat → Int64)  : WM l yX5_generate wsX5_generate ({ frames := 5, cells := 0, slots := 0, locals := 116 } : Room) D (gTys cI cL cZ) [.ref hb] [(hb, .inr (5, [.ref hp, .ref ht, .ref hg, .ref ha, .ref hq])), (hp, .inr (2, [.ref p0, .ref p1, .ref p2, .ref p3, .ref p4])), (p0, .inl (cI, 12, .inl (fun _ => (0 : Int32)))), (p1, .inl (cI, 12, .inl (fun _ => (0 : Int32)))), (p2, .inl (cI, 12, .inl (fun _ => (0 : Int32)))), (p3, .inl (cI, 24, .inl (fun _ => (-1 : Int32)))), (p4, .inl (cZ, 12, .inl (fun _ => (0 : Int32)))), (ht, .inr (4, [.ref t0, .int ts, .int tr, .long tf])), (t0, .inl (cI, 30, .inl fp)), (ha, .inr (0, [.ref a0, .ref a1, .ref a2, .ref a3, .int (0 : Int32), .long (0 : Int64)])), (a0, .inl (cI, 41, .inl fa0)), (a1, .inl (cI, 41, .inl fa1)), (a3, .inl (cL, 41, .inr (.inl fa3))), (hg, .inr (1, [.ref g0, .ref g1, .ref g2, .int (1 : Int32)])), (g0, .inl (cI, 4, .inl (fun _ => (1 : Int32)))), (g1, .inl (cI, 4, .inl (fun _ => (1 : Int32)))), (g2, .inl (cI, 4, .inl (fun _ => (1 : Int32))))] (fun (_ : Unit) => True) (fun (_ : Unit) => some (.int (7947 : Int32))) (fun (_ : Unit) => []) := by
  refine WM.ofG cX5_generate 2 (some .int) (by decide +kernel) rfl (Nat.le_of_ble_eq_true rfl) ?_
  intro p e s m below meth c A hA B hr hlocks hname hK hN
  refine g_aload_n B dX5_generate_0 0 rfl ?_
  refine g_callP (g_runV (q0 := 0) (ci := 5) B hK rfl rfl (PM.met (k_checkRoom_v l (D := D) (cI := cI) (cL := cL) (cZ := cZ) hb hp ht hg ha hq a0 a1 a2 a3 )) (gPp.pre (av := [.ref hb]) (wc := [(hb, .inr (5, [.ref hp, .ref ht, .ref hg, .ref ha, .ref hq])), (ha, .inr (0, [.ref a0, .ref a1, .ref a2, .ref a3, .int (0 : Int32), .long (0 : Int64)]))]) hK hN [0, 9] rfl (by decide)) gX5_generate_X5_checkRoom rfl rfl kd_X5_checkRoom ⟨by decide, by decide⟩ (st := []) rfl (Nat.le_of_ble_eq_true rfl) dX5_generate_1 ⟨by decide, by decide⟩) (fun u hu => ?_)
  refine g_aload_n B dX5_generate_4 0 rfl ?_
  refine g_get (C := RX5) (T := TX5) (N := 5) (ci := 5) B hK hin_X5_generate_RX5 0 rfl rfl 2 (by decide) (List.mem_of_getElem? (i := 1) rfl) rfl (v := .ref hg) rfl dX5_generate_5 ?_
  refine g_callW (w2 := (fun (_ : Unit) => [(hb, .inr (5, [.ref hp, .ref ht, .ref hg, .ref ha, .ref hq])), (hp, .inr (2, [.ref p0, .ref p1, .ref p2, .ref p3, .ref p4])), (p0, .inl (cI, 12, .inl (fun _ => (0 : Int32)))), (p1, .inl (cI, 12, .inl (fun _ => (0 : Int32)))), (p2, .inl (cI, 12, .inl (fun _ => (0 : Int32)))), (p3, .inl (cI, 24, .inl (fun _ => (-1 : Int32)))), (p4, .inl (cZ, 12, .inl (fun _ => (0 : Int32)))), (ht, .inr (4, [.ref t0, .int ts, .int tr, .long tf])), (t0, .inl (cI, 30, .inl fp)), (ha, .inr (0, [.ref a0, .ref a1, .ref a2, .ref a3, .int (0 : Int32), .long (0 : Int64)])), (a0, .inl (cI, 41, .inl fa0)), (a1, .inl (cI, 41, .inl fa1)), (a3, .inl (cL, 41, .inr (.inl fa3))), (hg, .inr (1, [.ref g0, .ref g1, .ref g2, .int (9945 : Int32)])), (g0, .inl (cI, 4, .inl (fun _ => (1 : Int32)))), (g1, .inl (cI, 4, .inl (fun _ => (1 : Int32)))), (g2, .inl (cI, 4, .inl (fun _ => (1 : Int32))))])) (g_runV (q0 := 13) (ci := 1) B hK rfl rfl (k_nextCase_1 l (D := D) (cI := cI) (cL := cL) (cZ := cZ) hg g0 g1 g2 ) (gPw.pre (av := [.ref hg]) (wc := [(hg, .inr (1, [.ref g0, .ref g1, .ref g2, .int (1 : Int32)])), (g0, .inl (cI, 4, .inl (fun _ => (1 : Int32)))), (g1, .inl (cI, 4, .inl (fun _ => (1 : Int32)))), (g2, .inl (cI, 4, .inl (fun _ => (1 : Int32))))]) hK hN [13, 14, 15, 16] rfl (by decide)) gX5_generate_X1_nextCase rfl rfl kd_X1_nextCase ⟨by decide, by decide⟩ (st := []) rfl (Nat.le_of_ble_eq_true rfl) dX5_generate_8 ⟨by decide, by decide⟩) hA (fun _ h => h) [13, 14, 15, 16] [0, 1, 2, 3, 4, 5, 6, 7, 8, 9, 10, 11, 12] (wr := [(hb, .inr (5, [.ref hp, .ref ht, .ref hg, .ref ha, .ref hq])), (hp, .inr (2, [.ref p0, .ref p1, .ref p2, .ref p3, .ref p4])), (p0, .inl (cI, 12, .inl (fun _ => (0 : Int32)))), (p1, .inl (cI, 12, .inl (fun _ => (0 : Int32)))), (p2, .inl (cI, 12, .inl (fun _ => (0 : Int32)))), (p3, .inl (cI, 24, .inl (fun _ => (-1 : Int32)))), (p4, .inl (cZ, 12, .inl (fun _ => (0 : Int32)))), (ht, .inr (4, [.ref t0, .int ts, .int tr, .long tf])), (t0, .inl (cI, 30, .inl fp)), (ha, .inr (0, [.ref a0, .ref a1, .ref a2, .ref a3, .int (0 : Int32), .long (0 : Int64)])), (a0, .inl (cI, 41, .inl fa0)), (a1, .inl (cI, 41, .inl fa1)), (a3, .inl (cL, 41, .inr (.inl fa3)))]) rfl rfl (by decide) (by decide) [0, 1, 2, 3, 4, 5, 6, 7, 8, 9, 10, 11, 12, 13, 14, 15, 16] (by decide) (fun _ => rfl) (fun u hu => ?_)
  refine g_istore_n (lv' := [(0, .ref hb), (1, .int (7947 : Int32))]) B dX5_generate_11 rfl (by decide) [1, 0] rfl ?_
  refine g_aload_n B dX5_generate_12 0 rfl ?_
  refine g_iload_n B dX5_generate_13 1 rfl ?_
  refine g_callW (w2 := (fun (_ : Unit) => [(hb, .inr (5, [.ref hp, .ref ht, .ref hg, .ref ha, .ref hq])), (hg, .inr (1, [.ref g0, .ref g1, .ref g2, .int (9945 : Int32)])), (g0, .inl (cI, 4, .inl (fun _ => (1 : Int32)))), (g1, .inl (cI, 4, .inl (fun _ => (1 : Int32)))), (g2, .inl (cI, 4, .inl (fun _ => (1 : Int32))))])) (g_runV (q0 := 0) (ci := 5) B hK rfl rfl (k_tasteOf l (D := D) (cI := cI) (cL := cL) (cZ := cZ) hb hp ht hg ha hq p0 p1 p2 p3 p4 t0 fp ts tr tf a0 a1 a2 a3 fa0 fa1 fa3 7947 (by omega)) (gPw.pre (av := [.ref hb, .int (7947 : Int32)]) (wc := [(hb, .inr (5, [.ref hp, .ref ht, .ref hg, .ref ha, .ref hq])), (hp, .inr (2, [.ref p0, .ref p1, .ref p2, .ref p3, .ref p4])), (p0, .inl (cI, 12, .inl (fun _ => (0 : Int32)))), (p1, .inl (cI, 12, .inl (fun _ => (0 : Int32)))), (p2, .inl (cI, 12, .inl (fun _ => (0 : Int32)))), (p3, .inl (cI, 24, .inl (fun _ => (-1 : Int32)))), (p4, .inl (cZ, 12, .inl (fun _ => (0 : Int32)))), (ht, .inr (4, [.ref t0, .int ts, .int tr, .long tf])), (t0, .inl (cI, 30, .inl fp)), (ha, .inr (0, [.ref a0, .ref a1, .ref a2, .ref a3, .int (0 : Int32), .long (0 : Int64)])), (a0, .inl (cI, 41, .inl fa0)), (a1, .inl (cI, 41, .inl fa1)), (a3, .inl (cL, 41, .inr (.inl fa3)))]) hK hN [0, 1, 2, 3, 4, 5, 6, 7, 8, 9, 10, 11, 12] rfl (by decide)) gX5_generate_X5_tasteOf rfl rfl kd_X5_tasteOf ⟨by decide, by decide⟩ (st := []) rfl (Nat.le_of_ble_eq_true rfl) dX5_generate_14 ⟨by decide, by decide⟩) hA (fun _ h => h) [0, 1, 2, 3, 4, 5, 6, 7, 8, 9, 10, 11, 12] [13, 14, 15, 16] (wr := [(hg, .inr (1, [.ref g0, .ref g1, .ref g2, .int (9945 : Int32)])), (g0, .inl (cI, 4, .inl (fun _ => (1 : Int32)))), (g1, .inl (cI, 4, .inl (fun _ => (1 : Int32)))), (g2, .inl (cI, 4, .inl (fun _ => (1 : Int32))))]) rfl rfl (by decide) (by decide) [4, 0, 1, 2, 3] (by decide) (fun _ => rfl) (fun u hu => ?_)
  refine g_pop B dX5_generate_17 rfl ?_
  refine g_iload_n B dX5_generate_18 1 rfl ?_
  exact g_iret_w B hr rfl hlocks () (rfl) (trivial) [] (by decide) rfl dX5_generate_19

set_option maxHeartbeats 4000000 in
set_option maxRecDepth 100000 in
theorem k_taste_v (l : Launch) {D : va_G} {cI cL cZ : ClassId} (hb : Nat) (hp : Nat) (ht : Nat) (hg : Nat) (ha : Nat) (hq : Nat) (p0 : Nat) (p1 : Nat) (p2 : Nat) (p3 : Nat) (p4 : Nat) (t0 : Nat) (fp : Nat → Int32) (ts : Int32) (tr : Int32) (tf : Int64) (a0 : Nat) (a1 : Nat) (a2 : Nat) (a3 : Nat) (fa0 : Nat → Int32) (fa1 : Nat → Int32) (fa3 : Nat → Int64) (t : Nat) (ht1 : t < 10000) : WM l yX5_taste wsX5_taste ({ frames := 5, cells := 0, slots := 0, locals := 116 } : Room) D (gTys cI cL cZ) [.ref hb, .int (nI t)] [(hb, .inr (5, [.ref hp, .ref ht, .ref hg, .ref ha, .ref hq])), (hp, .inr (2, [.ref p0, .ref p1, .ref p2, .ref p3, .ref p4])), (p0, .inl (cI, 12, .inl (fun _ => (0 : Int32)))), (p1, .inl (cI, 12, .inl (fun _ => (0 : Int32)))), (p2, .inl (cI, 12, .inl (fun _ => (0 : Int32)))), (p3, .inl (cI, 24, .inl (fun _ => (-1 : Int32)))), (p4, .inl (cZ, 12, .inl (fun _ => (0 : Int32)))), (ht, .inr (4, [.ref t0, .int ts, .int tr, .long tf])), (t0, .inl (cI, 30, .inl fp)), (ha, .inr (0, [.ref a0, .ref a1, .ref a2, .ref a3, .int (0 : Int32), .long (0 : Int64)])), (a0, .inl (cI, 41, .inl fa0)), (a1, .inl (cI, 41, .inl fa1)), (a3, .inl (cL, 41, .inr (.inl fa3)))] (fun (_ : Unit) => True) (fun (_ : Unit) => some (.int (0 : Int32))) (fun (_ : Unit) => []) := by
  refine WM.ofG cX5_taste 2 (some .int) (by decide +kernel) rfl (Nat.le_of_ble_eq_true rfl) ?_
  intro p e s m below meth c A hA B hr hlocks hname hK hN
  refine g_iload_n B dX5_taste_0 1 rfl ?_
  refine g_callP (g_runS B (PM.met (k_checkCase_n l (D := D) (cI := cI) (cL := cL) (cZ := cZ) t (by omega))) (gPp.pre (av := [.int (nI t)]) (wc := []) hK hN [] rfl (by decide)) gX5_taste_X5_checkCase rfl kd_X5_checkCase ⟨by decide, by decide⟩ (st := []) rfl (Nat.le_of_ble_eq_true rfl) dX5_taste_1 ⟨by decide, by decide⟩) (fun u hu => ?_)
  refine g_aload_n B dX5_taste_4 0 rfl ?_
  refine g_callP (g_runV (q0 := 0) (ci := 5) B hK rfl rfl (PM.met (k_checkRoom_v l (D := D) (cI := cI) (cL := cL) (cZ := cZ) hb hp ht hg ha hq a0 a1 a2 a3 )) (gPp.pre (av := [.ref hb]) (wc := [(hb, .inr (5, [.ref hp, .ref ht, .ref hg, .ref ha, .ref hq])), (ha, .inr (0, [.ref a0, .ref a1, .ref a2, .ref a3, .int (0 : Int32), .long (0 : Int64)]))]) hK hN [0, 9] rfl (by decide)) gX5_taste_X5_checkRoom rfl rfl kd_X5_checkRoom ⟨by decide, by decide⟩ (st := []) rfl (Nat.le_of_ble_eq_true rfl) dX5_taste_5 ⟨by decide, by decide⟩) (fun u hu => ?_)
  refine g_aload_n B dX5_taste_8 0 rfl ?_
  refine g_iload_n B dX5_taste_9 1 rfl ?_
  refine g_callW (w2 := (fun (_ : Unit) => [(hb, .inr (5, [.ref hp, .ref ht, .ref hg, .ref ha, .ref hq]))])) (g_runV (q0 := 0) (ci := 5) B hK rfl rfl (k_tasteOf l (D := D) (cI := cI) (cL := cL) (cZ := cZ) hb hp ht hg ha hq p0 p1 p2 p3 p4 t0 fp ts tr tf a0 a1 a2 a3 fa0 fa1 fa3 t (by omega)) (gPw.pre (av := [.ref hb, .int (nI t)]) (wc := [(hb, .inr (5, [.ref hp, .ref ht, .ref hg, .ref ha, .ref hq])), (hp, .inr (2, [.ref p0, .ref p1, .ref p2, .ref p3, .ref p4])), (p0, .inl (cI, 12, .inl (fun _ => (0 : Int32)))), (p1, .inl (cI, 12, .inl (fun _ => (0 : Int32)))), (p2, .inl (cI, 12, .inl (fun _ => (0 : Int32)))), (p3, .inl (cI, 24, .inl (fun _ => (-1 : Int32)))), (p4, .inl (cZ, 12, .inl (fun _ => (0 : Int32)))), (ht, .inr (4, [.ref t0, .int ts, .int tr, .long tf])), (t0, .inl (cI, 30, .inl fp)), (ha, .inr (0, [.ref a0, .ref a1, .ref a2, .ref a3, .int (0 : Int32), .long (0 : Int64)])), (a0, .inl (cI, 41, .inl fa0)), (a1, .inl (cI, 41, .inl fa1)), (a3, .inl (cL, 41, .inr (.inl fa3)))]) hK hN [0, 1, 2, 3, 4, 5, 6, 7, 8, 9, 10, 11, 12] rfl (by decide)) gX5_taste_X5_tasteOf rfl rfl kd_X5_tasteOf ⟨by decide, by decide⟩ (st := []) rfl (Nat.le_of_ble_eq_true rfl) dX5_taste_10 ⟨by decide, by decide⟩) hA (fun _ h => h) [0, 1, 2, 3, 4, 5, 6, 7, 8, 9, 10, 11, 12] [] (wr := []) rfl rfl (by decide) (by decide) [0] (by decide) (fun _ => rfl) (fun u hu => ?_)
  exact g_iret_w B hr rfl hlocks () (rfl) (trivial) [] (by decide) rfl dX5_taste_13

set_option maxHeartbeats 4000000 in
set_option maxRecDepth 100000 in
theorem k_many_0 (l : Launch) {D : va_G} {cI cL cZ : ClassId} (hb : Nat) (hp : Nat) (ht : Nat) (hg : Nat) (ha : Nat) (hq : Nat) (a0 : Nat) (a1 : Nat) (a2 : Nat) (a3 : Nat)  : PM l yX5_many wsX5_many ({ frames := 0, cells := 0, slots := 0, locals := 0 } : Room) D (gTys cI cL cZ) [.ref hb, .int (0 : Int32)] [(hb, .inr (5, [.ref hp, .ref ht, .ref hg, .ref ha, .ref hq])), (ha, .inr (0, [.ref a0, .ref a1, .ref a2, .ref a3, .int (0 : Int32), .long (0 : Int64)]))] (fun (_ : Unit) => True) (fun (_ : Unit) => some (.int (0 : Int32))) := by
  refine PM.ofG cX5_many 2 (some .int) (by decide +kernel) rfl (Nat.le_of_ble_eq_true rfl) ?_
  intro p e s m below meth c B hr hlocks hname hK hN
  refine g_iload_n B dX5_many_0 1 rfl ?_
  refine g_if_lt (tgt := 10) B dX5_many_1 (by decide) (fun c1 => absurd c1 (by decide)) (fun _ => ?_)
  refine g_iload_n B dX5_many_4 1 rfl ?_
  refine g_bipush (v := (7 : Int32)) B dX5_many_5 (by decide) ?_
  refine g_icmp_le (tgt := 20) B dX5_many_7 (by decide) (fun _ => ?_) (fun c2 => absurd (by decide) c2)
  refine g_iload_n B dX5_many_20 1 rfl ?_
  refine g_tableIn (off := 43) (tgt := 64) B dX5_many_21 (by decide) (by decide) (by decide) (by decide) ?_
  refine g_aload_n B dX5_many_64 0 rfl ?_
  refine g_get (C := RX5) (T := TX5) (N := 5) (ci := 5) B hK hin_X5_many_RX5 0 rfl rfl 3 (by decide) (List.mem_of_getElem? (i := 3) rfl) rfl (v := .ref ha) rfl dX5_many_65 ?_
  refine g_getN (C := RX0) (T := TX0) (N := 6) (ci := 0) B hK hin_X5_many_RX0 1 rfl rfl 4 (by decide) hN 4 rfl rfl (v := .int (0 : Int32)) rfl dX5_many_68 ?_
  exact g_iret_p B hr rfl hlocks () (rfl) (trivial) dX5_many_71

set_option maxHeartbeats 4000000 in
set_option maxRecDepth 100000 in
theorem k_many_1 (l : Launch) {D : va_G} {cI cL cZ : ClassId} (hb : Nat) (hp : Nat) (ht : Nat) (hg : Nat) (ha : Nat) (hq : Nat) (a0 : Nat) (a1 : Nat) (a2 : Nat) (a3 : Nat)  : PM l yX5_many wsX5_many ({ frames := 1, cells := 0, slots := 0, locals := 21 } : Room) D (gTys cI cL cZ) [.ref hb, .int (1 : Int32)] [(hb, .inr (5, [.ref hp, .ref ht, .ref hg, .ref ha, .ref hq])), (ha, .inr (0, [.ref a0, .ref a1, .ref a2, .ref a3, .int (0 : Int32), .long (0 : Int64)]))] (fun (_ : Unit) => True) (fun (_ : Unit) => some (.int (0 : Int32))) := by
  refine PM.ofG cX5_many 2 (some .int) (by decide +kernel) rfl (Nat.le_of_ble_eq_true rfl) ?_
  intro p e s m below meth c B hr hlocks hname hK hN
  refine g_iload_n B dX5_many_0 1 rfl ?_
  refine g_if_lt (tgt := 10) B dX5_many_1 (by decide) (fun c1 => absurd c1 (by decide)) (fun _ => ?_)
  refine g_iload_n B dX5_many_4 1 rfl ?_
  refine g_bipush (v := (7 : Int32)) B dX5_many_5 (by decide) ?_
  refine g_icmp_le (tgt := 20) B dX5_many_7 (by decide) (fun _ => ?_) (fun c2 => absurd (by decide) c2)
  refine g_iload_n B dX5_many_20 1 rfl ?_
  refine g_tableIn (off := 51) (tgt := 72) B dX5_many_21 (by decide) (by decide) (by decide) (by decide) ?_
  refine g_aload_n B dX5_many_72 0 rfl ?_
  refine g_get (C := RX5) (T := TX5) (N := 5) (ci := 5) B hK hin_X5_many_RX5 0 rfl rfl 3 (by decide) (List.mem_of_getElem? (i := 3) rfl) rfl (v := .ref ha) rfl dX5_many_73 ?_
  refine g_getN (C := RX0) (T := TX0) (N := 6) (ci := 0) B hK hin_X5_many_RX0 1 rfl rfl 5 (by decide) hN 7 rfl rfl (v := .long (0 : Int64)) rfl dX5_many_76 ?_
  refine g_callP (g_runS B (PM.met (c_bitCount_0 l (D := D) (cI := cI) (cL := cL) (cZ := cZ)  )) (gPp.pre (av := [.long (0 : Int64)]) (wc := []) hK hN [] rfl (by decide)) gX5_many_J13_bitCount_95d88 rfl kd_J13_bitCount_95d88 ⟨by decide, by decide⟩ (st := []) rfl (Nat.le_of_ble_eq_true rfl) dX5_many_79 ⟨by decide, by decide⟩) (fun u hu => ?_)
  exact g_iret_p B hr rfl hlocks () (rfl) (trivial) dX5_many_82

set_option maxHeartbeats 4000000 in
set_option maxRecDepth 100000 in
theorem k_many_2 (l : Launch) {D : va_G} {cI cL cZ : ClassId} (hb : Nat) (hp : Nat) (ht : Nat) (hg : Nat) (ha : Nat) (hq : Nat) (a0 : Nat) (a1 : Nat) (a2 : Nat) (a3 : Nat)  : PM l yX5_many wsX5_many ({ frames := 2, cells := 0, slots := 0, locals := 42 } : Room) D (gTys cI cL cZ) [.ref hb, .int (2 : Int32)] [(hb, .inr (5, [.ref hp, .ref ht, .ref hg, .ref ha, .ref hq])), (ha, .inr (0, [.ref a0, .ref a1, .ref a2, .ref a3, .int (0 : Int32), .long (0 : Int64)]))] (fun (_ : Unit) => True) (fun (_ : Unit) => some (.int (0 : Int32))) := by
  refine PM.ofG cX5_many 2 (some .int) (by decide +kernel) rfl (Nat.le_of_ble_eq_true rfl) ?_
  intro p e s m below meth c B hr hlocks hname hK hN
  refine g_iload_n B dX5_many_0 1 rfl ?_
  refine g_if_lt (tgt := 10) B dX5_many_1 (by decide) (fun c1 => absurd c1 (by decide)) (fun _ => ?_)
  refine g_iload_n B dX5_many_4 1 rfl ?_
  refine g_bipush (v := (7 : Int32)) B dX5_many_5 (by decide) ?_
  refine g_icmp_le (tgt := 20) B dX5_many_7 (by decide) (fun _ => ?_) (fun c2 => absurd (by decide) c2)
  refine g_iload_n B dX5_many_20 1 rfl ?_
  refine g_tableIn (off := 62) (tgt := 83) B dX5_many_21 (by decide) (by decide) (by decide) (by decide) ?_
  refine g_aload_n B dX5_many_83 0 rfl ?_
  refine g_get (C := RX5) (T := TX5) (N := 5) (ci := 5) B hK hin_X5_many_RX5 0 rfl rfl 3 (by decide) (List.mem_of_getElem? (i := 3) rfl) rfl (v := .ref ha) rfl dX5_many_84 ?_
  refine g_aload_n B dX5_many_87 0 rfl ?_
  refine g_get (C := RX5) (T := TX5) (N := 5) (ci := 5) B hK hin_X5_many_RX5 0 rfl rfl 3 (by decide) (List.mem_of_getElem? (i := 3) rfl) rfl (v := .ref ha) rfl dX5_many_88 ?_
  refine g_getN (C := RX0) (T := TX0) (N := 6) (ci := 0) B hK hin_X5_many_RX0 1 rfl rfl 5 (by decide) hN 7 rfl rfl (v := .long (0 : Int64)) rfl dX5_many_91 ?_
  refine g_callP (g_runV (q0 := 1) (ci := 0) B hK rfl rfl (PM.met (k_foundBy_0 l (D := D) (cI := cI) (cL := cL) (cZ := cZ) ha a0 a1 a2 a3 (0 : Int32) (0 : Int64) )) (gPp.pre (av := [.ref ha, .long (0 : Int64)]) (wc := [(ha, .inr (0, [.ref a0, .ref a1, .ref a2, .ref a3, .int (0 : Int32), .long (0 : Int64)]))]) hK hN [1] rfl (by decide)) gX5_many_X0_foundBy rfl rfl kd_X0_foundBy ⟨by decide, by decide⟩ (st := []) rfl (Nat.le_of_ble_eq_true rfl) dX5_many_94 ⟨by decide, by decide⟩) (fun u hu => ?_)
  refine g_callP (g_runS B (PM.met (c_edgesIn_0 l (D := D) (cI := cI) (cL := cL) (cZ := cZ)  )) (gPp.pre (av := [.long (0 : Int64)]) (wc := []) hK hN [] rfl (by decide)) gX5_many_X5_edgesIn rfl kd_X5_edgesIn ⟨by decide, by decide⟩ (st := []) rfl (Nat.le_of_ble_eq_true rfl) dX5_many_97 ⟨by decide, by decide⟩) (fun u hu => ?_)
  exact g_iret_p B hr rfl hlocks () (rfl) (trivial) dX5_many_100

set_option maxHeartbeats 4000000 in
set_option maxRecDepth 100000 in
theorem k_many_3 (l : Launch) {D : va_G} {cI cL cZ : ClassId} (hb : Nat) (hp : Nat) (ht : Nat) (hg : Nat) (ha : Nat) (hq : Nat) (a0 : Nat) (a1 : Nat) (a2 : Nat) (a3 : Nat)  : PM l yX5_many wsX5_many ({ frames := 2, cells := 0, slots := 0, locals := 42 } : Room) D (gTys cI cL cZ) [.ref hb, .int (3 : Int32)] [(hb, .inr (5, [.ref hp, .ref ht, .ref hg, .ref ha, .ref hq])), (ha, .inr (0, [.ref a0, .ref a1, .ref a2, .ref a3, .int (0 : Int32), .long (0 : Int64)]))] (fun (_ : Unit) => True) (fun (_ : Unit) => some (.int (0 : Int32))) := by
  refine PM.ofG cX5_many 2 (some .int) (by decide +kernel) rfl (Nat.le_of_ble_eq_true rfl) ?_
  intro p e s m below meth c B hr hlocks hname hK hN
  refine g_iload_n B dX5_many_0 1 rfl ?_
  refine g_if_lt (tgt := 10) B dX5_many_1 (by decide) (fun c1 => absurd c1 (by decide)) (fun _ => ?_)
  refine g_iload_n B dX5_many_4 1 rfl ?_
  refine g_bipush (v := (7 : Int32)) B dX5_many_5 (by decide) ?_
  refine g_icmp_le (tgt := 20) B dX5_many_7 (by decide) (fun _ => ?_) (fun c2 => absurd (by decide) c2)
  refine g_iload_n B dX5_many_20 1 rfl ?_
  refine g_tableIn (off := 80) (tgt := 101) B dX5_many_21 (by decide) (by decide) (by decide) (by decide) ?_
  refine g_aload_n B dX5_many_101 0 rfl ?_
  refine g_get (C := RX5) (T := TX5) (N := 5) (ci := 5) B hK hin_X5_many_RX5 0 rfl rfl 3 (by decide) (List.mem_of_getElem? (i := 3) rfl) rfl (v := .ref ha) rfl dX5_many_102 ?_
  refine g_aload_n B dX5_many_105 0 rfl ?_
  refine g_get (C := RX5) (T := TX5) (N := 5) (ci := 5) B hK hin_X5_many_RX5 0 rfl rfl 3 (by decide) (List.mem_of_getElem? (i := 3) rfl) rfl (v := .ref ha) rfl dX5_many_106 ?_
  refine g_callP (g_runV (q0 := 1) (ci := 0) B hK rfl rfl (PM.met (k_allKnown l (D := D) (cI := cI) (cL := cL) (cZ := cZ) ha a0 a1 a2 a3 )) (gPp.pre (av := [.ref ha]) (wc := [(ha, .inr (0, [.ref a0, .ref a1, .ref a2, .ref a3, .int (0 : Int32), .long (0 : Int64)]))]) hK hN [1] rfl (by decide)) gX5_many_X0_allKnown rfl rfl kd_X0_allKnown ⟨by decide, by decide⟩ (st := [.ref ha]) rfl (Nat.le_of_ble_eq_true rfl) dX5_many_109 ⟨by decide, by decide⟩) (fun u hu => ?_)
  refine g_callP (g_runV (q0 := 1) (ci := 0) B hK rfl rfl (PM.met (k_foundBy_0 l (D := D) (cI := cI) (cL := cL) (cZ := cZ) ha a0 a1 a2 a3 (0 : Int32) (0 : Int64) )) (gPp.pre (av := [.ref ha, .long (0 : Int64)]) (wc := [(ha, .inr (0, [.ref a0, .ref a1, .ref a2, .ref a3, .int (0 : Int32), .long (0 : Int64)]))]) hK hN [1] rfl (by decide)) gX5_many_X0_foundBy rfl rfl kd_X0_foundBy ⟨by decide, by decide⟩ (st := []) rfl (Nat.le_of_ble_eq_true rfl) dX5_many_112 ⟨by decide, by decide⟩) (fun u hu => ?_)
  refine g_callP (g_runS B (PM.met (c_edgesIn_0 l (D := D) (cI := cI) (cL := cL) (cZ := cZ)  )) (gPp.pre (av := [.long (0 : Int64)]) (wc := []) hK hN [] rfl (by decide)) gX5_many_X5_edgesIn rfl kd_X5_edgesIn ⟨by decide, by decide⟩ (st := []) rfl (Nat.le_of_ble_eq_true rfl) dX5_many_115 ⟨by decide, by decide⟩) (fun u hu => ?_)
  exact g_iret_p B hr rfl hlocks () (rfl) (trivial) dX5_many_118

set_option maxHeartbeats 4000000 in
set_option maxRecDepth 100000 in
theorem k_many_4 (l : Launch) {D : va_G} {cI cL cZ : ClassId} (hb : Nat) (hp : Nat) (ht : Nat) (hg : Nat) (ha : Nat) (hq : Nat) (a0 : Nat) (a1 : Nat) (a2 : Nat) (a3 : Nat)  : PM l yX5_many wsX5_many ({ frames := 1, cells := 0, slots := 0, locals := 25 } : Room) D (gTys cI cL cZ) [.ref hb, .int (4 : Int32)] [(hb, .inr (5, [.ref hp, .ref ht, .ref hg, .ref ha, .ref hq])), (ha, .inr (0, [.ref a0, .ref a1, .ref a2, .ref a3, .int (0 : Int32), .long (0 : Int64)]))] (fun (_ : Unit) => True) (fun (_ : Unit) => some (.int (0 : Int32))) := by
  refine PM.ofG cX5_many 2 (some .int) (by decide +kernel) rfl (Nat.le_of_ble_eq_true rfl) ?_
  intro p e s m below meth c B hr hlocks hname hK hN
  refine g_iload_n B dX5_many_0 1 rfl ?_
  refine g_if_lt (tgt := 10) B dX5_many_1 (by decide) (fun c1 => absurd c1 (by decide)) (fun _ => ?_)
  refine g_iload_n B dX5_many_4 1 rfl ?_
  refine g_bipush (v := (7 : Int32)) B dX5_many_5 (by decide) ?_
  refine g_icmp_le (tgt := 20) B dX5_many_7 (by decide) (fun _ => ?_) (fun c2 => absurd (by decide) c2)
  refine g_iload_n B dX5_many_20 1 rfl ?_
  refine g_tableIn (off := 98) (tgt := 119) B dX5_many_21 (by decide) (by decide) (by decide) (by decide) ?_
  refine g_aload_n B dX5_many_119 0 rfl ?_
  refine g_get (C := RX5) (T := TX5) (N := 5) (ci := 5) B hK hin_X5_many_RX5 0 rfl rfl 3 (by decide) (List.mem_of_getElem? (i := 3) rfl) rfl (v := .ref ha) rfl dX5_many_120 ?_
  refine g_aload_n B dX5_many_123 0 rfl ?_
  refine g_get (C := RX5) (T := TX5) (N := 5) (ci := 5) B hK hin_X5_many_RX5 0 rfl rfl 3 (by decide) (List.mem_of_getElem? (i := 3) rfl) rfl (v := .ref ha) rfl dX5_many_124 ?_
  refine g_getN (C := RX0) (T := TX0) (N := 6) (ci := 0) B hK hin_X5_many_RX0 1 rfl rfl 5 (by decide) hN 7 rfl rfl (v := .long (0 : Int64)) rfl dX5_many_127 ?_
  refine g_callP (g_runV (q0 := 1) (ci := 0) B hK rfl rfl (PM.met (k_foundBy_0 l (D := D) (cI := cI) (cL := cL) (cZ := cZ) ha a0 a1 a2 a3 (0 : Int32) (0 : Int64) )) (gPp.pre (av := [.ref ha, .long (0 : Int64)]) (wc := [(ha, .inr (0, [.ref a0, .ref a1, .ref a2, .ref a3, .int (0 : Int32), .long (0 : Int64)]))]) hK hN [1] rfl (by decide)) gX5_many_X0_foundBy rfl rfl kd_X0_foundBy ⟨by decide, by decide⟩ (st := []) rfl (Nat.le_of_ble_eq_true rfl) dX5_many_130 ⟨by decide, by decide⟩) (fun u hu => ?_)
  refine g_bipush (v := (24 : Int32)) B dX5_many_133 (by decide) ?_
  refine g_lushr (v := (0 : Int64)) B dX5_many_135 (by decide) ?_
  refine g_callP (g_runS B (PM.met (c_bitCount_0 l (D := D) (cI := cI) (cL := cL) (cZ := cZ)  )) (gPp.pre (av := [.long (0 : Int64)]) (wc := []) hK hN [] rfl (by decide)) gX5_many_J13_bitCount_95d88 rfl kd_J13_bitCount_95d88 ⟨by decide, by decide⟩ (st := []) rfl (Nat.le_of_ble_eq_true rfl) dX5_many_136 ⟨by decide, by decide⟩) (fun u hu => ?_)
  exact g_iret_p B hr rfl hlocks () (rfl) (trivial) dX5_many_139

set_option maxHeartbeats 4000000 in
set_option maxRecDepth 100000 in
theorem k_many_5 (l : Launch) {D : va_G} {cI cL cZ : ClassId} (hb : Nat) (hp : Nat) (ht : Nat) (hg : Nat) (ha : Nat) (hq : Nat) (r0 : Nat) (r1 : Nat) (r2 : Nat)  : PM l yX5_many wsX5_many ({ frames := 0, cells := 0, slots := 0, locals := 0 } : Room) D (gTys cI cL cZ) [.ref hb, .int (5 : Int32)] [(hb, .inr (5, [.ref hp, .ref ht, .ref hg, .ref ha, .ref hq])), (hq, .inr (3, [.ref r0, .ref r1, .ref r2, .int (0 : Int32)]))] (fun (_ : Unit) => True) (fun (_ : Unit) => some (.int (0 : Int32))) := by
  refine PM.ofG cX5_many 2 (some .int) (by decide +kernel) rfl (Nat.le_of_ble_eq_true rfl) ?_
  intro p e s m below meth c B hr hlocks hname hK hN
  refine g_iload_n B dX5_many_0 1 rfl ?_
  refine g_if_lt (tgt := 10) B dX5_many_1 (by decide) (fun c1 => absurd c1 (by decide)) (fun _ => ?_)
  refine g_iload_n B dX5_many_4 1 rfl ?_
  refine g_bipush (v := (7 : Int32)) B dX5_many_5 (by decide) ?_
  refine g_icmp_le (tgt := 20) B dX5_many_7 (by decide) (fun _ => ?_) (fun c2 => absurd (by decide) c2)
  refine g_iload_n B dX5_many_20 1 rfl ?_
  refine g_tableIn (off := 119) (tgt := 140) B dX5_many_21 (by decide) (by decide) (by decide) (by decide) ?_
  refine g_aload_n B dX5_many_140 0 rfl ?_
  refine g_get (C := RX5) (T := TX5) (N := 5) (ci := 5) B hK hin_X5_many_RX5 0 rfl rfl 4 (by decide) (List.mem_of_getElem? (i := 4) rfl) rfl (v := .ref hq) rfl dX5_many_141 ?_
  refine g_getN (C := RX3) (T := TX3) (N := 4) (ci := 3) B hK hin_X5_many_RX3 1 rfl rfl 3 (by decide) hN 8 rfl rfl (v := .int (0 : Int32)) rfl dX5_many_144 ?_
  exact g_iret_p B hr rfl hlocks () (rfl) (trivial) dX5_many_147

set_option maxHeartbeats 4000000 in
set_option maxRecDepth 100000 in
theorem k_many_6 (l : Launch) {D : va_G} {cI cL cZ : ClassId} (hb : Nat) (hp : Nat) (ht : Nat) (hg : Nat) (ha : Nat) (hq : Nat) (g0 : Nat) (g1 : Nat) (g2 : Nat)  : PM l yX5_many wsX5_many ({ frames := 0, cells := 0, slots := 0, locals := 0 } : Room) D (gTys cI cL cZ) [.ref hb, .int (6 : Int32)] [(hb, .inr (5, [.ref hp, .ref ht, .ref hg, .ref ha, .ref hq])), (hg, .inr (1, [.ref g0, .ref g1, .ref g2, .int (1 : Int32)]))] (fun (_ : Unit) => True) (fun (_ : Unit) => some (.int (1 : Int32))) := by
  refine PM.ofG cX5_many 2 (some .int) (by decide +kernel) rfl (Nat.le_of_ble_eq_true rfl) ?_
  intro p e s m below meth c B hr hlocks hname hK hN
  refine g_iload_n B dX5_many_0 1 rfl ?_
  refine g_if_lt (tgt := 10) B dX5_many_1 (by decide) (fun c1 => absurd c1 (by decide)) (fun _ => ?_)
  refine g_iload_n B dX5_many_4 1 rfl ?_
  refine g_bipush (v := (7 : Int32)) B dX5_many_5 (by decide) ?_
  refine g_icmp_le (tgt := 20) B dX5_many_7 (by decide) (fun _ => ?_) (fun c2 => absurd (by decide) c2)
  refine g_iload_n B dX5_many_20 1 rfl ?_
  refine g_tableIn (off := 127) (tgt := 148) B dX5_many_21 (by decide) (by decide) (by decide) (by decide) ?_
  refine g_aload_n B dX5_many_148 0 rfl ?_
  refine g_get (C := RX5) (T := TX5) (N := 5) (ci := 5) B hK hin_X5_many_RX5 0 rfl rfl 2 (by decide) (List.mem_of_getElem? (i := 5) rfl) rfl (v := .ref hg) rfl dX5_many_149 ?_
  refine g_getN (C := RX1) (T := TX1) (N := 4) (ci := 1) B hK hin_X5_many_RX1 1 rfl rfl 3 (by decide) hN 1 rfl rfl (v := .int (1 : Int32)) rfl dX5_many_152 ?_
  exact g_iret_p B hr rfl hlocks () (rfl) (trivial) dX5_many_155

set_option maxHeartbeats 4000000 in
set_option maxRecDepth 100000 in
theorem k_many_7 (l : Launch) {D : va_G} {cI cL cZ : ClassId} (hb : Nat) (hp : Nat) (ht : Nat) (hg : Nat) (ha : Nat) (hq : Nat) (p0 : Nat) (p1 : Nat) (p2 : Nat) (p3 : Nat) (p4 : Nat)  : PM l yX5_many wsX5_many ({ frames := 2, cells := 0, slots := 0, locals := 46 } : Room) D (gTys cI cL cZ) [.ref hb, .int (7 : Int32)] [(hb, .inr (5, [.ref hp, .ref ht, .ref hg, .ref ha, .ref hq])), (hp, .inr (2, [.ref p0, .ref p1, .ref p2, .ref p3, .ref p4])), (p3, .inl (cI, 24, .inl (fun _ => (-1 : Int32))))] (fun (_ : Unit) => True) (fun (_ : Unit) => some (.int (1 : Int32))) := by
  refine PM.ofG cX5_many 2 (some .int) (by decide +kernel) rfl (Nat.le_of_ble_eq_true rfl) ?_
  intro p e s m below meth c B hr hlocks hname hK hN
  refine g_iload_n B dX5_many_0 1 rfl ?_
  refine g_if_lt (tgt := 10) B dX5_many_1 (by decide) (fun c1 => absurd c1 (by decide)) (fun _ => ?_)
  refine g_iload_n B dX5_many_4 1 rfl ?_
  refine g_bipush (v := (7 : Int32)) B dX5_many_5 (by decide) ?_
  refine g_icmp_le (tgt := 20) B dX5_many_7 (by decide) (fun _ => ?_) (fun c2 => absurd (by decide) c2)
  refine g_iload_n B dX5_many_20 1 rfl ?_
  refine g_tableOut (tgt := 156) B dX5_many_21 (by decide) (by decide) ?_
  refine g_aload_n B dX5_many_156 0 rfl ?_
  refine g_get (C := RX5) (T := TX5) (N := 5) (ci := 5) B hK hin_X5_many_RX5 0 rfl rfl 0 (by decide) (List.mem_of_getElem? (i := 6) rfl) rfl (v := .ref hp) rfl dX5_many_157 ?_
  refine g_callP (g_runV (q0 := 1) (ci := 2) B hK rfl rfl (PM.met (k_reachableNodes l (D := D) (cI := cI) (cL := cL) (cZ := cZ) hp p0 p1 p2 p3 p4 )) (gPp.pre (av := [.ref hp]) (wc := [(hp, .inr (2, [.ref p0, .ref p1, .ref p2, .ref p3, .ref p4])), (p3, .inl (cI, 24, .inl (fun _ => (-1 : Int32))))]) hK hN [1, 2] rfl (by decide)) gX5_many_X2_reachableNodes rfl rfl kd_X2_reachableNodes ⟨by decide, by decide⟩ (st := []) rfl (Nat.le_of_ble_eq_true rfl) dX5_many_160 ⟨by decide, by decide⟩) (fun u hu => ?_)
  exact g_iret_p B hr rfl hlocks () (rfl) (trivial) dX5_many_163

set_option maxHeartbeats 4000000 in
set_option maxRecDepth 100000 in
theorem k_meanEnergy_v (l : Launch) {D : va_G} {cI cL cZ : ClassId} (hb : Nat) (hp : Nat) (ht : Nat) (hg : Nat) (ha : Nat) (hq : Nat) (a0 : Nat) (a1 : Nat) (a2 : Nat) (a3 : Nat)  : PM l yX5_meanEnergy wsX5_meanEnergy ({ frames := 1, cells := 0, slots := 0, locals := 21 } : Room) D (gTys cI cL cZ) [.ref hb] [(hb, .inr (5, [.ref hp, .ref ht, .ref hg, .ref ha, .ref hq])), (ha, .inr (0, [.ref a0, .ref a1, .ref a2, .ref a3, .int (0 : Int32), .long (0 : Int64)]))] (fun (_ : Unit) => True) (fun (_ : Unit) => some (.double FP.dconst0)) := by
  refine PM.ofG cX5_meanEnergy 2 (some .double) (by decide +kernel) rfl (Nat.le_of_ble_eq_true rfl) ?_
  intro p e s m below meth c B hr hlocks hname hK hN
  refine g_aload_n B dX5_meanEnergy_0 0 rfl ?_
  refine g_get (C := RX5) (T := TX5) (N := 5) (ci := 5) B hK hin_X5_meanEnergy_RX5 0 rfl rfl 3 (by decide) (List.mem_of_getElem? (i := 1) rfl) rfl (v := .ref ha) rfl dX5_meanEnergy_1 ?_
  refine g_getN (C := RX0) (T := TX0) (N := 6) (ci := 0) B hK hin_X5_meanEnergy_RX0 1 rfl rfl 5 (by decide) hN 7 rfl rfl (v := .long (0 : Int64)) rfl dX5_meanEnergy_4 ?_
  refine g_callP (g_runS B (PM.met (c_bitCount_0 l (D := D) (cI := cI) (cL := cL) (cZ := cZ)  )) (gPp.pre (av := [.long (0 : Int64)]) (wc := []) hK hN [] rfl (by decide)) gX5_meanEnergy_J13_bitCount_95d88 rfl kd_J13_bitCount_95d88 ⟨by decide, by decide⟩ (st := []) rfl (Nat.le_of_ble_eq_true rfl) dX5_meanEnergy_7 ⟨by decide, by decide⟩) (fun u hu => ?_)
  refine g_istore_n (lv' := [(0, .ref hb), (1, .int (0 : Int32))]) B dX5_meanEnergy_10 rfl (by decide) [1, 0] rfl ?_
  refine g_iload_n B dX5_meanEnergy_11 1 rfl ?_
  refine g_if_ne (tgt := 17) B dX5_meanEnergy_12 (by decide) (fun c2 => absurd (by decide) c2) (fun _ => ?_)
  refine g_dconst0 B dX5_meanEnergy_15 ?_
  exact g_dret_p B hr hlocks () (rfl) (trivial) dX5_meanEnergy_16

set_option maxHeartbeats 4000000 in
set_option maxRecDepth 100000 in
theorem k_ofEdge_v0 (l : Launch) {D : va_G} {cI cL cZ : ClassId} (hb : Nat) (hp : Nat) (ht : Nat) (hg : Nat) (ha : Nat) (hq : Nat) (a0 : Nat) (a1 : Nat) (a2 : Nat) (a3 : Nat) (b1 : Nat) (h1 : b1 < 24) : PM l yX5_ofEdge wsX5_ofEdge ({ frames := 1, cells := 0, slots := 0, locals := 24 } : Room) D (gTys cI cL cZ) [.ref hb, .int (nI b1), .int (0 : Int32)] [(hb, .inr (5, [.ref hp, .ref ht, .ref hg, .ref ha, .ref hq])), (ha, .inr (0, [.ref a0, .ref a1, .ref a2, .ref a3, .int (0 : Int32), .long (0 : Int64)]))] (fun (_ : Unit) => True) (fun (_ : Unit) => some (.int (0 : Int32))) := by
  refine PM.ofG cX5_ofEdge 5 (some .int) (by decide +kernel) rfl (Nat.le_of_ble_eq_true rfl) ?_
  intro p e s m below meth c B hr hlocks hname hK hN
  refine g_iload_n B dX5_ofEdge_0 1 rfl ?_
  refine g_callP (g_runS B (PM.met (k_checkEdge_n l (D := D) (cI := cI) (cL := cL) (cZ := cZ) b1 (by omega))) (gPp.pre (av := [.int (nI b1)]) (wc := []) hK hN [] rfl (by decide)) gX5_ofEdge_X5_checkEdge rfl kd_X5_checkEdge ⟨by decide, by decide⟩ (st := []) rfl (Nat.le_of_ble_eq_true rfl) dX5_ofEdge_1 ⟨by decide, by decide⟩) (fun u hu => ?_)
  refine g_iload_n B dX5_ofEdge_4 2 rfl ?_
  refine g_if_lt (tgt := 13) B dX5_ofEdge_5 (by decide) (fun c2 => absurd c2 (by decide)) (fun _ => ?_)
  refine g_iload_n B dX5_ofEdge_8 2 rfl ?_
  refine g_iconst (v := (2 : Int32)) B dX5_ofEdge_9 (by decide) ?_
  refine g_icmp_le (tgt := 23) B dX5_ofEdge_10 (by decide) (fun _ => ?_) (fun c3 => absurd (by decide) c3)
  refine g_aload_n B dX5_ofEdge_23 0 rfl ?_
  refine g_get (C := RX5) (T := TX5) (N := 5) (ci := 5) B hK hin_X5_ofEdge_RX5 0 rfl rfl 3 (by decide) (List.mem_of_getElem? (i := 3) rfl) rfl (v := .ref ha) rfl dX5_ofEdge_24 ?_
  refine g_iload_n B dX5_ofEdge_27 1 rfl ?_
  refine g_callP (g_runV (q0 := 1) (ci := 0) B hK rfl rfl (PM.met (k_coverersOf_0 l (D := D) (cI := cI) (cL := cL) (cZ := cZ) ha a0 a1 a2 a3 (nI b1) )) (gPp.pre (av := [.ref ha, .int (nI b1)]) (wc := [(ha, .inr (0, [.ref a0, .ref a1, .ref a2, .ref a3, .int (0 : Int32), .long (0 : Int64)]))]) hK hN [1] rfl (by decide)) gX5_ofEdge_X0_coverersOf rfl rfl kd_X0_coverersOf ⟨by decide, by decide⟩ (st := []) rfl (Nat.le_of_ble_eq_true rfl) dX5_ofEdge_28 ⟨by decide, by decide⟩) (fun u hu => ?_)
  refine g_lstore_n (lv' := [(0, .ref hb), (1, .int (nI b1)), (2, .int (0 : Int32)), (3, .long (0 : Int64))]) B dX5_ofEdge_31 rfl (by decide) [1, 2, 3, 0] rfl ?_
  refine g_iload_n B dX5_ofEdge_32 2 rfl ?_
  refine g_lookup (off := 27) (tgt := 60) B dX5_ofEdge_33 (by decide) (by decide) (by decide) ?_
  refine g_lload_n B dX5_ofEdge_60 3 rfl ?_
  refine g_aload_n B dX5_ofEdge_61 0 rfl ?_
  refine g_get (C := RX5) (T := TX5) (N := 5) (ci := 5) B hK hin_X5_ofEdge_RX5 0 rfl rfl 3 (by decide) (List.mem_of_getElem? (i := 3) rfl) rfl (v := .ref ha) rfl dX5_ofEdge_62 ?_
  refine g_getN (C := RX0) (T := TX0) (N := 6) (ci := 0) B hK hin_X5_ofEdge_RX0 1 rfl rfl 5 (by decide) hN 7 rfl rfl (v := .long (0 : Int64)) rfl dX5_ofEdge_65 ?_
  refine g_land (v := (0 : Int64)) B dX5_ofEdge_68 (by decide) ?_
  refine g_callP (g_runS B (PM.met (c_bitCount_0 l (D := D) (cI := cI) (cL := cL) (cZ := cZ)  )) (gPp.pre (av := [.long (0 : Int64)]) (wc := []) hK hN [] rfl (by decide)) gX5_ofEdge_J13_bitCount_95d88 rfl kd_J13_bitCount_95d88 ⟨by decide, by decide⟩ (st := []) rfl (Nat.le_of_ble_eq_true rfl) dX5_ofEdge_69 ⟨by decide, by decide⟩) (fun u hu => ?_)
  exact g_iret_p B hr rfl hlocks () (rfl) (trivial) dX5_ofEdge_72

set_option maxHeartbeats 4000000 in
set_option maxRecDepth 100000 in
theorem k_ofEdge_v1 (l : Launch) {D : va_G} {cI cL cZ : ClassId} (hb : Nat) (hp : Nat) (ht : Nat) (hg : Nat) (ha : Nat) (hq : Nat) (a0 : Nat) (a1 : Nat) (a2 : Nat) (a3 : Nat) (b1 : Nat) (h1 : b1 < 24) : PM l yX5_ofEdge wsX5_ofEdge ({ frames := 1, cells := 0, slots := 0, locals := 24 } : Room) D (gTys cI cL cZ) [.ref hb, .int (nI b1), .int (1 : Int32)] [(hb, .inr (5, [.ref hp, .ref ht, .ref hg, .ref ha, .ref hq])), (ha, .inr (0, [.ref a0, .ref a1, .ref a2, .ref a3, .int (0 : Int32), .long (0 : Int64)]))] (fun (_ : Unit) => True) (fun (_ : Unit) => some (.int (0 : Int32))) := by
  refine PM.ofG cX5_ofEdge 5 (some .int) (by decide +kernel) rfl (Nat.le_of_ble_eq_true rfl) ?_
  intro p e s m below meth c B hr hlocks hname hK hN
  refine g_iload_n B dX5_ofEdge_0 1 rfl ?_
  refine g_callP (g_runS B (PM.met (k_checkEdge_n l (D := D) (cI := cI) (cL := cL) (cZ := cZ) b1 (by omega))) (gPp.pre (av := [.int (nI b1)]) (wc := []) hK hN [] rfl (by decide)) gX5_ofEdge_X5_checkEdge rfl kd_X5_checkEdge ⟨by decide, by decide⟩ (st := []) rfl (Nat.le_of_ble_eq_true rfl) dX5_ofEdge_1 ⟨by decide, by decide⟩) (fun u hu => ?_)
  refine g_iload_n B dX5_ofEdge_4 2 rfl ?_
  refine g_if_lt (tgt := 13) B dX5_ofEdge_5 (by decide) (fun c2 => absurd c2 (by decide)) (fun _ => ?_)
  refine g_iload_n B dX5_ofEdge_8 2 rfl ?_
  refine g_iconst (v := (2 : Int32)) B dX5_ofEdge_9 (by decide) ?_
  refine g_icmp_le (tgt := 23) B dX5_ofEdge_10 (by decide) (fun _ => ?_) (fun c3 => absurd (by decide) c3)
  refine g_aload_n B dX5_ofEdge_23 0 rfl ?_
  refine g_get (C := RX5) (T := TX5) (N := 5) (ci := 5) B hK hin_X5_ofEdge_RX5 0 rfl rfl 3 (by decide) (List.mem_of_getElem? (i := 3) rfl) rfl (v := .ref ha) rfl dX5_ofEdge_24 ?_
  refine g_iload_n B dX5_ofEdge_27 1 rfl ?_
  refine g_callP (g_runV (q0 := 1) (ci := 0) B hK rfl rfl (PM.met (k_coverersOf_0 l (D := D) (cI := cI) (cL := cL) (cZ := cZ) ha a0 a1 a2 a3 (nI b1) )) (gPp.pre (av := [.ref ha, .int (nI b1)]) (wc := [(ha, .inr (0, [.ref a0, .ref a1, .ref a2, .ref a3, .int (0 : Int32), .long (0 : Int64)]))]) hK hN [1] rfl (by decide)) gX5_ofEdge_X0_coverersOf rfl rfl kd_X0_coverersOf ⟨by decide, by decide⟩ (st := []) rfl (Nat.le_of_ble_eq_true rfl) dX5_ofEdge_28 ⟨by decide, by decide⟩) (fun u hu => ?_)
  refine g_lstore_n (lv' := [(0, .ref hb), (1, .int (nI b1)), (2, .int (1 : Int32)), (3, .long (0 : Int64))]) B dX5_ofEdge_31 rfl (by decide) [1, 2, 3, 0] rfl ?_
  refine g_iload_n B dX5_ofEdge_32 2 rfl ?_
  refine g_lookup (off := 40) (tgt := 73) B dX5_ofEdge_33 (by decide) (by decide) (by decide) ?_
  refine g_lload_n B dX5_ofEdge_73 3 rfl ?_
  refine g_callP (g_runS B (PM.met (c_bitCount_0 l (D := D) (cI := cI) (cL := cL) (cZ := cZ)  )) (gPp.pre (av := [.long (0 : Int64)]) (wc := []) hK hN [] rfl (by decide)) gX5_ofEdge_J13_bitCount_95d88 rfl kd_J13_bitCount_95d88 ⟨by decide, by decide⟩ (st := []) rfl (Nat.le_of_ble_eq_true rfl) dX5_ofEdge_74 ⟨by decide, by decide⟩) (fun u hu => ?_)
  exact g_iret_p B hr rfl hlocks () (rfl) (trivial) dX5_ofEdge_77

set_option maxHeartbeats 4000000 in
set_option maxRecDepth 100000 in
theorem k_ofEdge_v2 (l : Launch) {D : va_G} {cI cL cZ : ClassId} (hb : Nat) (hp : Nat) (ht : Nat) (hg : Nat) (ha : Nat) (hq : Nat) (a0 : Nat) (a1 : Nat) (a2 : Nat) (a3 : Nat) (b1 : Nat) (h1 : b1 < 24) : PM l yX5_ofEdge wsX5_ofEdge ({ frames := 1, cells := 0, slots := 0, locals := 24 } : Room) D (gTys cI cL cZ) [.ref hb, .int (nI b1), .int (2 : Int32)] [(hb, .inr (5, [.ref hp, .ref ht, .ref hg, .ref ha, .ref hq])), (ha, .inr (0, [.ref a0, .ref a1, .ref a2, .ref a3, .int (0 : Int32), .long (0 : Int64)]))] (fun (_ : Unit) => True) (fun (_ : Unit) => some (.int (-1 : Int32))) := by
  refine PM.ofG cX5_ofEdge 5 (some .int) (by decide +kernel) rfl (Nat.le_of_ble_eq_true rfl) ?_
  intro p e s m below meth c B hr hlocks hname hK hN
  refine g_iload_n B dX5_ofEdge_0 1 rfl ?_
  refine g_callP (g_runS B (PM.met (k_checkEdge_n l (D := D) (cI := cI) (cL := cL) (cZ := cZ) b1 (by omega))) (gPp.pre (av := [.int (nI b1)]) (wc := []) hK hN [] rfl (by decide)) gX5_ofEdge_X5_checkEdge rfl kd_X5_checkEdge ⟨by decide, by decide⟩ (st := []) rfl (Nat.le_of_ble_eq_true rfl) dX5_ofEdge_1 ⟨by decide, by decide⟩) (fun u hu => ?_)
  refine g_iload_n B dX5_ofEdge_4 2 rfl ?_
  refine g_if_lt (tgt := 13) B dX5_ofEdge_5 (by decide) (fun c2 => absurd c2 (by decide)) (fun _ => ?_)
  refine g_iload_n B dX5_ofEdge_8 2 rfl ?_
  refine g_iconst (v := (2 : Int32)) B dX5_ofEdge_9 (by decide) ?_
  refine g_icmp_le (tgt := 23) B dX5_ofEdge_10 (by decide) (fun _ => ?_) (fun c3 => absurd (by decide) c3)
  refine g_aload_n B dX5_ofEdge_23 0 rfl ?_
  refine g_get (C := RX5) (T := TX5) (N := 5) (ci := 5) B hK hin_X5_ofEdge_RX5 0 rfl rfl 3 (by decide) (List.mem_of_getElem? (i := 3) rfl) rfl (v := .ref ha) rfl dX5_ofEdge_24 ?_
  refine g_iload_n B dX5_ofEdge_27 1 rfl ?_
  refine g_callP (g_runV (q0 := 1) (ci := 0) B hK rfl rfl (PM.met (k_coverersOf_0 l (D := D) (cI := cI) (cL := cL) (cZ := cZ) ha a0 a1 a2 a3 (nI b1) )) (gPp.pre (av := [.ref ha, .int (nI b1)]) (wc := [(ha, .inr (0, [.ref a0, .ref a1, .ref a2, .ref a3, .int (0 : Int32), .long (0 : Int64)]))]) hK hN [1] rfl (by decide)) gX5_ofEdge_X0_coverersOf rfl rfl kd_X0_coverersOf ⟨by decide, by decide⟩ (st := []) rfl (Nat.le_of_ble_eq_true rfl) dX5_ofEdge_28 ⟨by decide, by decide⟩) (fun u hu => ?_)
  refine g_lstore_n (lv' := [(0, .ref hb), (1, .int (nI b1)), (2, .int (2 : Int32)), (3, .long (0 : Int64))]) B dX5_ofEdge_31 rfl (by decide) [1, 2, 3, 0] rfl ?_
  refine g_iload_n B dX5_ofEdge_32 2 rfl ?_
  refine g_lookup (off := 45) (tgt := 78) B dX5_ofEdge_33 (by decide) (by decide) (by decide) ?_
  refine g_lload_n B dX5_ofEdge_78 3 rfl ?_
  refine g_lconst (v := (0 : Int64)) B dX5_ofEdge_79 rfl ?_
  refine g_lcmp (v := (0 : Int32)) B dX5_ofEdge_80 (by decide) ?_
  refine g_if_ne (tgt := 88) B dX5_ofEdge_81 (by decide) (fun c5 => absurd (by decide) c5) (fun _ => ?_)
  refine g_iconst (v := (-1 : Int32)) B dX5_ofEdge_84 (by decide) ?_
  refine g_goto (tgt := 92) B dX5_ofEdge_85 (by decide) ?_
  exact g_iret_p B hr rfl hlocks () (rfl) (trivial) dX5_ofEdge_92

set_option maxHeartbeats 4000000 in
set_option maxRecDepth 100000 in
theorem k_relation_v0 (l : Launch) {D : va_G} {cI cL cZ : ClassId} (hb : Nat) (hp : Nat) (ht : Nat) (hg : Nat) (ha : Nat) (hq : Nat) (r0 : Nat) (r1 : Nat) (r2 : Nat) (b2 : Nat) (b3 : Nat) (h0 : ¬ b2 = b3) (k2 : b2 < 4) (k3 : b3 < 4) : WM l yX5_relation wsX5_relation ({ frames := 1, cells := 0, slots := 0, locals := 23 } : Room) D (gTys cI cL cZ) [.ref hb, .int (0 : Int32), .int (nI b2), .int (nI b3)] [(hb, .inr (5, [.ref hp, .ref ht, .ref hg, .ref ha, .ref hq])), (hq, .inr (3, [.ref r0, .ref r1, .ref r2, .int (0 : Int32)])), (r0, .inl (cI, 6, .inl (fun _ => (0 : Int32)))), (r1, .inl (cI, 6, .inl (fun _ => (0 : Int32)))), (r2, .inl (cI, 6, .inl (fun _ => (0 : Int32))))] (fun (_ : Unit) => True) (fun (_ : Unit) => some (.int (0 : Int32))) (fun (_ : Unit) => []) := by
  refine WM.ofG cX5_relation 4 (some .int) (by decide +kernel) rfl (Nat.le_of_ble_eq_true rfl) ?_
  intro p e s m below meth c A hA B hr hlocks hname hK hN
  refine g_iload_n B dX5_relation_0 1 rfl ?_
  refine g_if_eq (tgt := 19) B dX5_relation_1 (by decide) (fun _ => ?_) (fun c1 => absurd (by decide) c1)
  refine g_iload_n B dX5_relation_19 1 rfl ?_
  refine g_if_ne (tgt := 38) B dX5_relation_20 (by decide) (fun c2 => absurd (by decide) c2) (fun _ => ?_)
  refine g_iload_n B dX5_relation_23 3 rfl ?_
  refine g_iload_n B dX5_relation_24 2 rfl ?_
  refine g_ncmp_ne (tgt := 38) B b3 b2 rfl rfl (by omega) (by omega) dX5_relation_25 (by decide) (fun c3 => ?_) (fun c3 => ?_)
  rotate_left; · exfalso; omega
  refine g_iload_n B dX5_relation_38 2 rfl ?_
  refine g_callP (g_runS B (PM.met (k_checkSlot_n l (D := D) (cI := cI) (cL := cL) (cZ := cZ) b2 (by omega))) (gPp.pre (av := [.int (nI b2)]) (wc := []) hK hN [] rfl (by decide)) gX5_relation_X5_checkSlot rfl kd_X5_checkSlot ⟨by decide, by decide⟩ (st := []) rfl (Nat.le_of_ble_eq_true rfl) dX5_relation_39 ⟨by decide, by decide⟩) (fun u hu => ?_)
  refine g_iload_n B dX5_relation_42 1 rfl ?_
  refine g_if_ne (tgt := 50) B dX5_relation_43 (by decide) (fun c5 => absurd (by decide) c5) (fun _ => ?_)
  refine g_iload_n B dX5_relation_46 3 rfl ?_
  refine g_callP (g_runS B (PM.met (k_checkSlot_n l (D := D) (cI := cI) (cL := cL) (cZ := cZ) b3 (by omega))) (gPp.pre (av := [.int (nI b3)]) (wc := []) hK hN [] rfl (by decide)) gX5_relation_X5_checkSlot rfl kd_X5_checkSlot ⟨by decide, by decide⟩ (st := []) rfl (Nat.le_of_ble_eq_true rfl) dX5_relation_47 ⟨by decide, by decide⟩) (fun u hu => ?_)
  refine g_aload_n B dX5_relation_50 0 rfl ?_
  refine g_get (C := RX5) (T := TX5) (N := 5) (ci := 5) B hK hin_X5_relation_RX5 0 rfl rfl 4 (by decide) (List.mem_of_getElem? (i := 5) rfl) rfl (v := .ref hq) rfl dX5_relation_51 ?_
  refine g_getN (C := RX3) (T := TX3) (N := 4) (ci := 3) B hK hin_X5_relation_RX3 1 rfl rfl 3 (by decide) hN 8 rfl rfl (v := .int (0 : Int32)) rfl dX5_relation_54 ?_
  refine g_bipush (v := (6 : Int32)) B dX5_relation_57 (by decide) ?_
  refine g_icmp_lt (tgt := 72) B dX5_relation_59 (by decide) (fun _ => ?_) (fun c7 => absurd (by decide) c7)
  refine g_aload_n B dX5_relation_72 0 rfl ?_
  refine g_get (C := RX5) (T := TX5) (N := 5) (ci := 5) B hK hin_X5_relation_RX5 0 rfl rfl 4 (by decide) (List.mem_of_getElem? (i := 5) rfl) rfl (v := .ref hq) rfl dX5_relation_73 ?_
  refine g_iload_n B dX5_relation_76 1 rfl ?_
  refine g_iload_n B dX5_relation_77 2 rfl ?_
  refine g_iload_n B dX5_relation_78 3 rfl ?_
  refine g_callW (w2 := (fun (_ : Unit) => [(hb, .inr (5, [.ref hp, .ref ht, .ref hg, .ref ha, .ref hq])), (hq, .inr (3, [.ref r0, .ref r1, .ref r2, .int (1 : Int32)]))])) (g_runV (q0 := 1) (ci := 3) B hK rfl rfl (k_add l (D := D) (cI := cI) (cL := cL) (cZ := cZ) hq r0 r1 r2 (0 : Int32) (nI b2) (nI b3) ) (gPw.pre (av := [.ref hq, .int (0 : Int32), .int (nI b2), .int (nI b3)]) (wc := [(hq, .inr (3, [.ref r0, .ref r1, .ref r2, .int (0 : Int32)])), (r0, .inl (cI, 6, .inl (fun _ => (0 : Int32)))), (r1, .inl (cI, 6, .inl (fun _ => (0 : Int32)))), (r2, .inl (cI, 6, .inl (fun _ => (0 : Int32))))]) hK hN [1, 2, 3, 4] rfl (by decide)) gX5_relation_X3_add rfl rfl kd_X3_add ⟨by decide, by decide⟩ (st := []) rfl (Nat.le_of_ble_eq_true rfl) dX5_relation_79 ⟨by decide, by decide⟩) hA (fun _ h => h) [1, 2, 3, 4] [0] (wr := [(hb, .inr (5, [.ref hp, .ref ht, .ref hg, .ref ha, .ref hq]))]) rfl rfl (by decide) (by decide) [0, 1] (by decide) (fun _ => rfl) (fun u hu => ?_)
  exact g_iret_w B hr rfl hlocks () (rfl) (trivial) [] (by decide) rfl dX5_relation_82

set_option maxHeartbeats 4000000 in
set_option maxRecDepth 100000 in
theorem k_relation_v1 (l : Launch) {D : va_G} {cI cL cZ : ClassId} (hb : Nat) (hp : Nat) (ht : Nat) (hg : Nat) (ha : Nat) (hq : Nat) (r0 : Nat) (r1 : Nat) (r2 : Nat) (b2 : Nat) (b3 : Int32) (k2 : b2 < 4) : WM l yX5_relation wsX5_relation ({ frames := 1, cells := 0, slots := 0, locals := 23 } : Room) D (gTys cI cL cZ) [.ref hb, .int (1 : Int32), .int (nI b2), .int b3] [(hb, .inr (5, [.ref hp, .ref ht, .ref hg, .ref ha, .ref hq])), (hq, .inr (3, [.ref r0, .ref r1, .ref r2, .int (0 : Int32)])), (r0, .inl (cI, 6, .inl (fun _ => (0 : Int32)))), (r1, .inl (cI, 6, .inl (fun _ => (0 : Int32)))), (r2, .inl (cI, 6, .inl (fun _ => (0 : Int32))))] (fun (_ : Unit) => True) (fun (_ : Unit) => some (.int (0 : Int32))) (fun (_ : Unit) => []) := by
  refine WM.ofG cX5_relation 4 (some .int) (by decide +kernel) rfl (Nat.le_of_ble_eq_true rfl) ?_
  intro p e s m below meth c A hA B hr hlocks hname hK hN
  refine g_iload_n B dX5_relation_0 1 rfl ?_
  refine g_if_eq (tgt := 19) B dX5_relation_1 (by decide) (fun c1 => absurd c1 (by decide)) (fun _ => ?_)
  refine g_iload_n B dX5_relation_4 1 rfl ?_
  refine g_iconst (v := (1 : Int32)) B dX5_relation_5 (by decide) ?_
  refine g_icmp_eq (tgt := 19) B dX5_relation_6 (by decide) (fun _ => ?_) (fun c2 => absurd (by decide) c2)
  refine g_iload_n B dX5_relation_19 1 rfl ?_
  refine g_if_ne (tgt := 38) B dX5_relation_20 (by decide) (fun _ => ?_) (fun c3 => absurd c3 (by decide))
  refine g_iload_n B dX5_relation_38 2 rfl ?_
  refine g_callP (g_runS B (PM.met (k_checkSlot_n l (D := D) (cI := cI) (cL := cL) (cZ := cZ) b2 (by omega))) (gPp.pre (av := [.int (nI b2)]) (wc := []) hK hN [] rfl (by decide)) gX5_relation_X5_checkSlot rfl kd_X5_checkSlot ⟨by decide, by decide⟩ (st := []) rfl (Nat.le_of_ble_eq_true rfl) dX5_relation_39 ⟨by decide, by decide⟩) (fun u hu => ?_)
  refine g_iload_n B dX5_relation_42 1 rfl ?_
  refine g_if_ne (tgt := 50) B dX5_relation_43 (by decide) (fun _ => ?_) (fun c5 => absurd c5 (by decide))
  refine g_aload_n B dX5_relation_50 0 rfl ?_
  refine g_get (C := RX5) (T := TX5) (N := 5) (ci := 5) B hK hin_X5_relation_RX5 0 rfl rfl 4 (by decide) (List.mem_of_getElem? (i := 5) rfl) rfl (v := .ref hq) rfl dX5_relation_51 ?_
  refine g_getN (C := RX3) (T := TX3) (N := 4) (ci := 3) B hK hin_X5_relation_RX3 1 rfl rfl 3 (by decide) hN 8 rfl rfl (v := .int (0 : Int32)) rfl dX5_relation_54 ?_
  refine g_bipush (v := (6 : Int32)) B dX5_relation_57 (by decide) ?_
  refine g_icmp_lt (tgt := 72) B dX5_relation_59 (by decide) (fun _ => ?_) (fun c6 => absurd (by decide) c6)
  refine g_aload_n B dX5_relation_72 0 rfl ?_
  refine g_get (C := RX5) (T := TX5) (N := 5) (ci := 5) B hK hin_X5_relation_RX5 0 rfl rfl 4 (by decide) (List.mem_of_getElem? (i := 5) rfl) rfl (v := .ref hq) rfl dX5_relation_73 ?_
  refine g_iload_n B dX5_relation_76 1 rfl ?_
  refine g_iload_n B dX5_relation_77 2 rfl ?_
  refine g_iload_n B dX5_relation_78 3 rfl ?_
  refine g_callW (w2 := (fun (_ : Unit) => [(hb, .inr (5, [.ref hp, .ref ht, .ref hg, .ref ha, .ref hq])), (hq, .inr (3, [.ref r0, .ref r1, .ref r2, .int (1 : Int32)]))])) (g_runV (q0 := 1) (ci := 3) B hK rfl rfl (k_add l (D := D) (cI := cI) (cL := cL) (cZ := cZ) hq r0 r1 r2 (1 : Int32) (nI b2) b3 ) (gPw.pre (av := [.ref hq, .int (1 : Int32), .int (nI b2), .int b3]) (wc := [(hq, .inr (3, [.ref r0, .ref r1, .ref r2, .int (0 : Int32)])), (r0, .inl (cI, 6, .inl (fun _ => (0 : Int32)))), (r1, .inl (cI, 6, .inl (fun _ => (0 : Int32)))), (r2, .inl (cI, 6, .inl (fun _ => (0 : Int32))))]) hK hN [1, 2, 3, 4] rfl (by decide)) gX5_relation_X3_add rfl rfl kd_X3_add ⟨by decide, by decide⟩ (st := []) rfl (Nat.le_of_ble_eq_true rfl) dX5_relation_79 ⟨by decide, by decide⟩) hA (fun _ h => h) [1, 2, 3, 4] [0] (wr := [(hb, .inr (5, [.ref hp, .ref ht, .ref hg, .ref ha, .ref hq]))]) rfl rfl (by decide) (by decide) [0, 1] (by decide) (fun _ => rfl) (fun u hu => ?_)
  exact g_iret_w B hr rfl hlocks () (rfl) (trivial) [] (by decide) rfl dX5_relation_82

set_option maxHeartbeats 4000000 in
set_option maxRecDepth 100000 in
theorem k_wouldDrop_v (l : Launch) {D : va_G} {cI cL cZ : ClassId} (hb : Nat) (hp : Nat) (ht : Nat) (hg : Nat) (ha : Nat) (hq : Nat) (p0 : Nat) (p1 : Nat) (p2 : Nat) (p3 : Nat) (p4 : Nat) (t0 : Nat) (fp : Nat → Int32) (ts : Int32) (tr : Int32) (tf : Int64) (a0 : Nat) (a1 : Nat) (a2 : Nat) (a3 : Nat) (fa0 : Nat → Int32) (fa1 : Nat → Int32) (fa3 : Nat → Int64) (t : Nat) (ht1 : t < 10000) : WM l yX5_wouldDrop wsX5_wouldDrop ({ frames := 4, cells := 0, slots := 0, locals := 95 } : Room) D (gTys cI cL cZ) [.ref hb, .int (nI t)] [(hb, .inr (5, [.ref hp, .ref ht, .ref hg, .ref ha, .ref hq])), (hp, .inr (2, [.ref p0, .ref p1, .ref p2, .ref p3, .ref p4])), (p0, .inl (cI, 12, .inl (fun _ => (0 : Int32)))), (p1, .inl (cI, 12, .inl (fun _ => (0 : Int32)))), (p2, .inl (cI, 12, .inl (fun _ => (0 : Int32)))), (p3, .inl (cI, 24, .inl (fun _ => (-1 : Int32)))), (p4, .inl (cZ, 12, .inl (fun _ => (0 : Int32)))), (ht, .inr (4, [.ref t0, .int ts, .int tr, .long tf])), (t0, .inl (cI, 30, .inl fp)), (ha, .inr (0, [.ref a0, .ref a1, .ref a2, .ref a3, .int (0 : Int32), .long (0 : Int64)])), (a0, .inl (cI, 41, .inl fa0)), (a1, .inl (cI, 41, .inl fa1)), (a3, .inl (cL, 41, .inr (.inl fa3)))] (fun (q : (Nat → Int32) × (Nat → Int32) × (Nat → Int32) × (Nat → Int64)) => True) (fun (q : (Nat → Int32) × (Nat → Int32) × (Nat → Int32) × (Nat → Int64)) => some (.int (0 : Int32))) (fun (q : (Nat → Int32) × (Nat → Int32) × (Nat → Int32) × (Nat → Int64)) => [(hb, .inr (5, [.ref hp, .ref ht, .ref hg, .ref ha, .ref hq])), (hp, .inr (2, [.ref p0, .ref p1, .ref p2, .ref p3, .ref p4])), (p0, .inl (cI, 12, .inl (fun _ => (0 : Int32)))), (p1, .inl (cI, 12, .inl (fun _ => (0 : Int32)))), (p2, .inl (cI, 12, .inl (fun _ => (0 : Int32)))), (p3, .inl (cI, 24, .inl (fun _ => (-1 : Int32)))), (p4, .inl (cZ, 12, .inl (fun _ => (0 : Int32)))), (ht, .inr (4, [.ref t0, .int (1 : Int32), .int (1 : Int32), .long (2 : Int64)])), (t0, .inl (cI, 30, .inl q.1)), (ha, .inr (0, [.ref a0, .ref a1, .ref a2, .ref a3, .int (0 : Int32), .long (0 : Int64)])), (a0, .inl (cI, 41, .inl q.2.1)), (a1, .inl (cI, 41, .inl q.2.2.1)), (a3, .inl (cL, 41, .inr (.inl q.2.2.2)))]) := by
  refine WM.ofG cX5_wouldDrop 4 (some .int) (by decide +kernel) rfl (Nat.le_of_ble_eq_true rfl) ?_
  intro p e s m below meth c A hA B hr hlocks hname hK hN
  refine g_iload_n B dX5_wouldDrop_0 1 rfl ?_
  refine g_callP (g_runS B (PM.met (k_checkCase_n l (D := D) (cI := cI) (cL := cL) (cZ := cZ) t (by omega))) (gPp.pre (av := [.int (nI t)]) (wc := []) hK hN [] rfl (by decide)) gX5_wouldDrop_X5_checkCase rfl kd_X5_checkCase ⟨by decide, by decide⟩ (st := []) rfl (Nat.le_of_ble_eq_true rfl) dX5_wouldDrop_1 ⟨by decide, by decide⟩) (fun u hu => ?_)
  refine g_aload_n B dX5_wouldDrop_4 0 rfl ?_
  refine g_get (C := RX5) (T := TX5) (N := 5) (ci := 5) B hK hin_X5_wouldDrop_RX5 0 rfl rfl 0 (by decide) (List.mem_of_getElem? (i := 1) rfl) rfl (v := .ref hp) rfl dX5_wouldDrop_5 ?_
  refine g_iload_n B dX5_wouldDrop_8 1 rfl ?_
  refine g_aload_n B dX5_wouldDrop_9 0 rfl ?_
  refine g_get (C := RX5) (T := TX5) (N := 5) (ci := 5) B hK hin_X5_wouldDrop_RX5 0 rfl rfl 1 (by decide) (List.mem_of_getElem? (i := 2) rfl) rfl (v := .ref ht) rfl dX5_wouldDrop_10 ?_
  refine g_callW (w2 := (fun (fp2_2 : Nat → Int32) => [(hb, .inr (5, [.ref hp, .ref ht, .ref hg, .ref ha, .ref hq])), (hp, .inr (2, [.ref p0, .ref p1, .ref p2, .ref p3, .ref p4])), (p0, .inl (cI, 12, .inl (fun _ => (0 : Int32)))), (p1, .inl (cI, 12, .inl (fun _ => (0 : Int32)))), (p2, .inl (cI, 12, .inl (fun _ => (0 : Int32)))), (p3, .inl (cI, 24, .inl (fun _ => (-1 : Int32)))), (p4, .inl (cZ, 12, .inl (fun _ => (0 : Int32)))), (ht, .inr (4, [.ref t0, .int (1 : Int32), .int (1 : Int32), .long (2 : Int64)])), (t0, .inl (cI, 30, .inl fp2_2)), (ha, .inr (0, [.ref a0, .ref a1, .ref a2, .ref a3, .int (0 : Int32), .long (0 : Int64)])), (a0, .inl (cI, 41, .inl fa0)), (a1, .inl (cI, 41, .inl fa1)), (a3, .inl (cL, 41, .inr (.inl fa3)))])) (g_runV (q0 := 1) (ci := 2) B hK rfl rfl (k_follow l (D := D) (cI := cI) (cL := cL) (cZ := cZ) hp p0 p1 p2 p3 p4 ht t0 fp ts tr tf t (by omega)) (gPw.pre (av := [.ref hp, .int (nI t), .ref ht]) (wc := [(hp, .inr (2, [.ref p0, .ref p1, .ref p2, .ref p3, .ref p4])), (p0, .inl (cI, 12, .inl (fun _ => (0 : Int32)))), (p1, .inl (cI, 12, .inl (fun _ => (0 : Int32)))), (p2, .inl (cI, 12, .inl (fun _ => (0 : Int32)))), (p3, .inl (cI, 24, .inl (fun _ => (-1 : Int32)))), (p4, .inl (cZ, 12, .inl (fun _ => (0 : Int32)))), (ht, .inr (4, [.ref t0, .int ts, .int tr, .long tf])), (t0, .inl (cI, 30, .inl fp))]) hK hN [1, 2, 3, 4, 5, 6, 7, 8] rfl (by decide)) gX5_wouldDrop_X2_follow rfl rfl kd_X2_follow ⟨by decide, by decide⟩ (st := []) rfl (Nat.le_of_ble_eq_true rfl) dX5_wouldDrop_13 ⟨by decide, by decide⟩) hA (fun _ h => h) [1, 2, 3, 4, 5, 6, 7, 8] [0, 9, 10, 11, 12] (wr := [(hb, .inr (5, [.ref hp, .ref ht, .ref hg, .ref ha, .ref hq])), (ha, .inr (0, [.ref a0, .ref a1, .ref a2, .ref a3, .int (0 : Int32), .long (0 : Int64)])), (a0, .inl (cI, 41, .inl fa0)), (a1, .inl (cI, 41, .inl fa1)), (a3, .inl (cL, 41, .inr (.inl fa3)))]) rfl rfl (by decide) (by decide) [0, 5, 6, 7, 8, 9, 10, 11, 12, 1, 2, 3, 4] (by decide) (fun _ => rfl) (fun u hu => ?_)
  obtain ⟨fp2_2, e9⟩ : ∃ z, z = u := ⟨_, rfl⟩; subst e9
  try dsimp only at hu ⊢
  have hu2 := hu
  refine g_aload_n B dX5_wouldDrop_16 0 rfl ?_
  refine g_get (C := RX5) (T := TX5) (N := 5) (ci := 5) B hK hin_X5_wouldDrop_RX5 0 rfl rfl 3 (by decide) (List.mem_of_getElem? (i := 3) rfl) rfl (v := .ref ha) rfl dX5_wouldDrop_17 ?_
  refine g_iload_n B dX5_wouldDrop_20 1 rfl ?_
  refine g_aload_n B dX5_wouldDrop_21 0 rfl ?_
  refine g_get (C := RX5) (T := TX5) (N := 5) (ci := 5) B hK hin_X5_wouldDrop_RX5 0 rfl rfl 1 (by decide) (List.mem_of_getElem? (i := 2) rfl) rfl (v := .ref ht) rfl dX5_wouldDrop_22 ?_
  refine g_callW (w2 := (fun (_ : Unit) => [(hb, .inr (5, [.ref hp, .ref ht, .ref hg, .ref ha, .ref hq])), (hp, .inr (2, [.ref p0, .ref p1, .ref p2, .ref p3, .ref p4])), (p0, .inl (cI, 12, .inl (fun _ => (0 : Int32)))), (p1, .inl (cI, 12, .inl (fun _ => (0 : Int32)))), (p2, .inl (cI, 12, .inl (fun _ => (0 : Int32)))), (p3, .inl (cI, 24, .inl (fun _ => (-1 : Int32)))), (p4, .inl (cZ, 12, .inl (fun _ => (0 : Int32)))), (ht, .inr (4, [.ref t0, .int (1 : Int32), .int (1 : Int32), .long (2 : Int64)])), (t0, .inl (cI, 30, .inl fp2_2)), (ha, .inr (0, [.ref a0, .ref a1, .ref a2, .ref a3, .int (0 : Int32), .long (0 : Int64)])), (a0, .inl (cI, 41, .inl (upd fa0 0 (nI t)))), (a1, .inl (cI, 41, .inl (upd fa1 0 (1 : Int32)))), (a3, .inl (cL, 41, .inr (.inl (vp_updL fa3 0 (2 : Int64)))))])) (g_runV (q0 := 9) (ci := 0) B hK rfl rfl (k_keptIfTasted l (D := D) (cI := cI) (cL := cL) (cZ := cZ) ha a0 a1 a2 a3 fa0 fa1 fa3 ht t0 t (by omega)) (gPw.pre (av := [.ref ha, .int (nI t), .ref ht]) (wc := [(ha, .inr (0, [.ref a0, .ref a1, .ref a2, .ref a3, .int (0 : Int32), .long (0 : Int64)])), (a0, .inl (cI, 41, .inl fa0)), (a1, .inl (cI, 41, .inl fa1)), (a3, .inl (cL, 41, .inr (.inl fa3))), (ht, .inr (4, [.ref t0, .int (1 : Int32), .int (1 : Int32), .long (2 : Int64)]))]) hK hN [9, 10, 11, 12, 7] rfl (by decide)) gX5_wouldDrop_X0_keptIfTasted rfl rfl kd_X0_keptIfTasted ⟨by decide, by decide⟩ (st := []) rfl (Nat.le_of_ble_eq_true rfl) dX5_wouldDrop_25 ⟨by decide, by decide⟩) hA (fun _ h => h) [9, 10, 11, 12, 7] [0, 1, 2, 3, 4, 5, 6, 8] (wr := [(hb, .inr (5, [.ref hp, .ref ht, .ref hg, .ref ha, .ref hq])), (hp, .inr (2, [.ref p0, .ref p1, .ref p2, .ref p3, .ref p4])), (p0, .inl (cI, 12, .inl (fun _ => (0 : Int32)))), (p1, .inl (cI, 12, .inl (fun _ => (0 : Int32)))), (p2, .inl (cI, 12, .inl (fun _ => (0 : Int32)))), (p3, .inl (cI, 24, .inl (fun _ => (-1 : Int32)))), (p4, .inl (cZ, 12, .inl (fun _ => (0 : Int32)))), (t0, .inl (cI, 30, .inl fp2_2))]) rfl rfl (by decide) (by decide) [0, 1, 2, 3, 4, 5, 6, 12, 7, 8, 9, 10, 11] (by decide) (fun _ => rfl) (fun u hu => ?_)
  refine g_lstore_n (lv' := [(0, .ref hb), (1, .int (nI t)), (2, .long (1 : Int64))]) B dX5_wouldDrop_28 rfl (by decide) [1, 2, 0] rfl ?_
  refine g_lload_n B dX5_wouldDrop_29 2 rfl ?_
  refine g_aload_n B dX5_wouldDrop_30 0 rfl ?_
  refine g_get (C := RX5) (T := TX5) (N := 5) (ci := 5) B hK hin_X5_wouldDrop_RX5 0 rfl rfl 3 (by decide) (List.mem_of_getElem? (i := 3) rfl) rfl (v := .ref ha) rfl dX5_wouldDrop_31 ?_
  refine g_getN (C := RX0) (T := TX0) (N := 6) (ci := 0) B hK hin_X5_wouldDrop_RX0 9 rfl rfl 5 (by decide) hN 7 rfl rfl (v := .long (0 : Int64)) rfl dX5_wouldDrop_34 ?_
  refine g_lcmp (v := (1 : Int32)) B dX5_wouldDrop_37 (by decide) ?_
  refine g_if_ne (tgt := 43) B dX5_wouldDrop_38 (by decide) (fun _ => ?_) (fun c4 => absurd c4 (by decide))
  refine g_aload_n B dX5_wouldDrop_43 0 rfl ?_
  refine g_get (C := RX5) (T := TX5) (N := 5) (ci := 5) B hK hin_X5_wouldDrop_RX5 0 rfl rfl 3 (by decide) (List.mem_of_getElem? (i := 3) rfl) rfl (v := .ref ha) rfl dX5_wouldDrop_44 ?_
  refine g_getN (C := RX0) (T := TX0) (N := 6) (ci := 0) B hK hin_X5_wouldDrop_RX0 9 rfl rfl 5 (by decide) hN 7 rfl rfl (v := .long (0 : Int64)) rfl dX5_wouldDrop_47 ?_
  refine g_lload_n B dX5_wouldDrop_50 2 rfl ?_
  refine g_ldc2 (v := (-1 : Int64)) B dX5_wouldDrop_51 (List.mem_of_getElem? (i := 4) rfl) ?_
  refine g_lxor (v := (-2 : Int64)) B dX5_wouldDrop_54 (by decide) ?_
  refine g_land (v := (0 : Int64)) B dX5_wouldDrop_55 (by decide) ?_
  refine g_callP (g_runS B (PM.met (c_bitCount_0 l (D := D) (cI := cI) (cL := cL) (cZ := cZ)  )) (gPp.pre (av := [.long (0 : Int64)]) (wc := []) hK hN [] rfl (by decide)) gX5_wouldDrop_J13_bitCount_95d88 rfl kd_J13_bitCount_95d88 ⟨by decide, by decide⟩ (st := []) rfl (Nat.le_of_ble_eq_true rfl) dX5_wouldDrop_56 ⟨by decide, by decide⟩) (fun u hu => ?_)
  exact g_iret_w B hr rfl hlocks (fp2_2, (upd fa0 0 (nI t)), (upd fa1 0 (1 : Int32)), (vp_updL fa3 0 (2 : Int64))) (rfl) (trivial) [0, 1, 2, 3, 4, 5, 6, 7, 8, 9, 10, 11, 12] (by decide) rfl dX5_wouldDrop_59

set_option maxHeartbeats 4000000 in
set_option maxRecDepth 100000 in
theorem k_otherwise_v (l : Launch) {D : va_G} {cI cL cZ : ClassId} (hb : Nat) (hp : Nat) (ht : Nat) (hg : Nat) (ha : Nat) (hq : Nat) (p0 : Nat) (p1 : Nat) (p2 : Nat) (p3 : Nat) (p4 : Nat) (a0 : Nat) (a1 : Nat) (a2 : Nat) (a3 : Nat) (b1 : Nat) (b2 : Nat) (b3 : Nat) (h1 : b1 < 12) (h2 : b2 < 3) (h3 : b3 < 10) : WM l yX5_otherwise wsX5_otherwise ({ frames := 2, cells := 0, slots := 0, locals := 40 } : Room) D (gTys cI cL cZ) [.ref hb, .int (nI b1), .int (nI b2), .int (nI b3)] [(hb, .inr (5, [.ref hp, .ref ht, .ref hg, .ref ha, .ref hq])), (hp, .inr (2, [.ref p0, .ref p1, .ref p2, .ref p3, .ref p4])), (p0, .inl (cI, 12, .inl (fun _ => (0 : Int32)))), (p1, .inl (cI, 12, .inl (fun _ => (0 : Int32)))), (p2, .inl (cI, 12, .inl (fun _ => (0 : Int32)))), (ha, .inr (0, [.ref a0, .ref a1, .ref a2, .ref a3, .int (0 : Int32), .long (0 : Int64)]))] (fun (_ : Unit) => True) (fun (_ : Unit) => some (.int (0 : Int32))) (fun (_ : Unit) => []) := by
  refine WM.ofG cX5_otherwise 9 (some .int) (by decide +kernel) rfl (Nat.le_of_ble_eq_true rfl) ?_
  intro p e s m below meth c A hA B hr hlocks hname hK hN
  refine g_iload_n B dX5_otherwise_0 1 rfl ?_
  refine g_callP (g_runS B (PM.met (k_checkNode_n l (D := D) (cI := cI) (cL := cL) (cZ := cZ) b1 (by omega))) (gPp.pre (av := [.int (nI b1)]) (wc := []) hK hN [] rfl (by decide)) gX5_otherwise_X5_checkNode rfl kd_X5_checkNode ⟨by decide, by decide⟩ (st := []) rfl (Nat.le_of_ble_eq_true rfl) dX5_otherwise_1 ⟨by decide, by decide⟩) (fun u hu => ?_)
  refine g_iload_n B dX5_otherwise_4 2 rfl ?_
  refine g_iload_n B dX5_otherwise_5 3 rfl ?_
  refine g_callP (g_runS B (PM.met (k_checkQuestion_n l (D := D) (cI := cI) (cL := cL) (cZ := cZ) b2 b3 (by omega) (by omega))) (gPp.pre (av := [.int (nI b2), .int (nI b3)]) (wc := []) hK hN [] rfl (by decide)) gX5_otherwise_X5_checkQuestion rfl kd_X5_checkQuestion ⟨by decide, by decide⟩ (st := []) rfl (Nat.le_of_ble_eq_true rfl) dX5_otherwise_6 ⟨by decide, by decide⟩) (fun u hu => ?_)
  refine g_aload_n B dX5_otherwise_9 0 rfl ?_
  refine g_get (C := RX5) (T := TX5) (N := 5) (ci := 5) B hK hin_X5_otherwise_RX5 0 rfl rfl 0 (by decide) (List.mem_of_getElem? (i := 1) rfl) rfl (v := .ref hp) rfl dX5_otherwise_10 ?_
  refine g_getN (C := RX2) (T := TX2) (N := 5) (ci := 2) B hK hin_X5_otherwise_RX2 1 rfl rfl 0 (by decide) hN 9 rfl rfl (v := .ref p0) rfl dX5_otherwise_13 ?_
  refine g_iload_n B dX5_otherwise_16 1 rfl ?_
  refine g_iald B hK 2 0 rfl rfl b1 rfl (by omega) (by omega) (v := (0 : Int32)) rfl dX5_otherwise_17 ?_
  refine g_istore (lv' := [(0, .ref hb), (1, .int (nI b1)), (2, .int (nI b2)), (3, .int (nI b3)), (4, .int (0 : Int32))]) B dX5_otherwise_18 (by decide) [1, 2, 3, 4, 0] rfl ?_
  refine g_aload_n B dX5_otherwise_20 0 rfl ?_
  refine g_get (C := RX5) (T := TX5) (N := 5) (ci := 5) B hK hin_X5_otherwise_RX5 0 rfl rfl 0 (by decide) (List.mem_of_getElem? (i := 1) rfl) rfl (v := .ref hp) rfl dX5_otherwise_21 ?_
  refine g_getN (C := RX2) (T := TX2) (N := 5) (ci := 2) B hK hin_X5_otherwise_RX2 1 rfl rfl 1 (by decide) hN 10 rfl rfl (v := .ref p1) rfl dX5_otherwise_24 ?_
  refine g_iload_n B dX5_otherwise_27 1 rfl ?_
  refine g_iald B hK 3 0 rfl rfl b1 rfl (by omega) (by omega) (v := (0 : Int32)) rfl dX5_otherwise_28 ?_
  refine g_istore (lv' := [(0, .ref hb), (1, .int (nI b1)), (2, .int (nI b2)), (3, .int (nI b3)), (4, .int (0 : Int32)), (5, .int (0 : Int32))]) B dX5_otherwise_29 (by decide) [1, 2, 3, 4, 5, 0] rfl ?_
  refine g_aload_n B dX5_otherwise_31 0 rfl ?_
  refine g_get (C := RX5) (T := TX5) (N := 5) (ci := 5) B hK hin_X5_otherwise_RX5 0 rfl rfl 0 (by decide) (List.mem_of_getElem? (i := 1) rfl) rfl (v := .ref hp) rfl dX5_otherwise_32 ?_
  refine g_getN (C := RX2) (T := TX2) (N := 5) (ci := 2) B hK hin_X5_otherwise_RX2 1 rfl rfl 2 (by decide) hN 11 rfl rfl (v := .ref p2) rfl dX5_otherwise_35 ?_
  refine g_iload_n B dX5_otherwise_38 1 rfl ?_
  refine g_iald B hK 4 0 rfl rfl b1 rfl (by omega) (by omega) (v := (0 : Int32)) rfl dX5_otherwise_39 ?_
  refine g_istore (lv' := [(0, .ref hb), (1, .int (nI b1)), (2, .int (nI b2)), (3, .int (nI b3)), (4, .int (0 : Int32)), (5, .int (0 : Int32)), (6, .int (0 : Int32))]) B dX5_otherwise_40 (by decide) [1, 2, 3, 4, 5, 6, 0] rfl ?_
  refine g_aload_n B dX5_otherwise_42 0 rfl ?_
  refine g_get (C := RX5) (T := TX5) (N := 5) (ci := 5) B hK hin_X5_otherwise_RX5 0 rfl rfl 0 (by decide) (List.mem_of_getElem? (i := 1) rfl) rfl (v := .ref hp) rfl dX5_otherwise_43 ?_
  refine g_iload_n B dX5_otherwise_46 1 rfl ?_
  refine g_iload B dX5_otherwise_47 4 rfl ?_
  refine g_iload_n B dX5_otherwise_49 2 rfl ?_
  refine g_iload_n B dX5_otherwise_50 3 rfl ?_
  refine g_callW (w2 := (fun (_ : Unit) => [(hb, .inr (5, [.ref hp, .ref ht, .ref hg, .ref ha, .ref hq])), (hp, .inr (2, [.ref p0, .ref p1, .ref p2, .ref p3, .ref p4])), (p0, .inl (cI, 12, .inl (upd (fun _ => (0 : Int32)) b1 (0 : Int32)))), (p1, .inl (cI, 12, .inl (upd (fun _ => (0 : Int32)) b1 (nI b2)))), (p2, .inl (cI, 12, .inl (upd (fun _ => (0 : Int32)) b1 (nI b3)))), (ha, .inr (0, [.ref a0, .ref a1, .ref a2, .ref a3, .int (0 : Int32), .long (0 : Int64)]))])) (g_runV (q0 := 1) (ci := 2) B hK rfl rfl (k_setQuestion_full l (D := D) (cI := cI) (cL := cL) (cZ := cZ) hp p0 p1 p2 p3 p4 b1 (0 : Int32) (nI b2) (nI b3) (by omega)) (gPw.pre (av := [.ref hp, .int (nI b1), .int (0 : Int32), .int (nI b2), .int (nI b3)]) (wc := [(hp, .inr (2, [.ref p0, .ref p1, .ref p2, .ref p3, .ref p4])), (p0, .inl (cI, 12, .inl (fun _ => (0 : Int32)))), (p1, .inl (cI, 12, .inl (fun _ => (0 : Int32)))), (p2, .inl (cI, 12, .inl (fun _ => (0 : Int32))))]) hK hN [1, 2, 3, 4] rfl (by decide)) gX5_otherwise_X2_setQuestion rfl rfl kd_X2_setQuestion ⟨by decide, by decide⟩ (st := []) rfl (Nat.le_of_ble_eq_true rfl) dX5_otherwise_51 ⟨by decide, by decide⟩) hA (fun _ h => h) [1, 2, 3, 4] [0, 5] (wr := [(hb, .inr (5, [.ref hp, .ref ht, .ref hg, .ref ha, .ref hq])), (ha, .inr (0, [.ref a0, .ref a1, .ref a2, .ref a3, .int (0 : Int32), .long (0 : Int64)]))]) rfl rfl (by decide) (by decide) [0, 2, 3, 4, 5, 1] (by decide) (fun _ => rfl) (fun u hu => ?_)
  refine g_iconst (v := (0 : Int32)) B dX5_otherwise_54 (by decide) ?_
  refine g_istore (lv' := [(0, .ref hb), (1, .int (nI b1)), (2, .int (nI b2)), (3, .int (nI b3)), (4, .int (0 : Int32)), (5, .int (0 : Int32)), (6, .int (0 : Int32)), (7, .int (0 : Int32))]) B dX5_otherwise_55 (by decide) [1, 2, 3, 4, 5, 6, 7, 0] rfl ?_
  refine g_iconst (v := (0 : Int32)) B dX5_otherwise_57 (by decide) ?_
  refine g_istore (lv' := [(0, .ref hb), (1, .int (nI b1)), (2, .int (nI b2)), (3, .int (nI b3)), (4, .int (0 : Int32)), (5, .int (0 : Int32)), (6, .int (0 : Int32)), (7, .int (0 : Int32)), (8, .int (0 : Int32))]) B dX5_otherwise_58 (by decide) [1, 2, 3, 4, 5, 6, 7, 8, 0] rfl ?_
  refine g_iload B dX5_otherwise_60 8 rfl ?_
  refine g_aload_n B dX5_otherwise_62 0 rfl ?_
  refine g_get (C := RX5) (T := TX5) (N := 5) (ci := 5) B hK hin_X5_otherwise_RX5 0 rfl rfl 3 (by decide) (List.mem_of_getElem? (i := 2) rfl) rfl (v := .ref ha) rfl dX5_otherwise_63 ?_
  refine g_getN (C := RX0) (T := TX0) (N := 6) (ci := 0) B hK hin_X5_otherwise_RX0 5 rfl rfl 4 (by decide) hN 4 rfl rfl (v := .int (0 : Int32)) rfl dX5_otherwise_66 ?_
  refine g_icmp_ge (tgt := 115) B dX5_otherwise_69 (by decide) (fun _ => ?_) (fun c4 => absurd (by decide) c4)
  refine g_aload_n B dX5_otherwise_115 0 rfl ?_
  refine g_get (C := RX5) (T := TX5) (N := 5) (ci := 5) B hK hin_X5_otherwise_RX5 0 rfl rfl 0 (by decide) (List.mem_of_getElem? (i := 1) rfl) rfl (v := .ref hp) rfl dX5_otherwise_116 ?_
  refine g_iload_n B dX5_otherwise_119 1 rfl ?_
  refine g_iload B dX5_otherwise_120 4 rfl ?_
  refine g_iload B dX5_otherwise_122 5 rfl ?_
  refine g_iload B dX5_otherwise_124 6 rfl ?_
  refine g_callW (w2 := (fun (_ : Unit) => [(hb, .inr (5, [.ref hp, .ref ht, .ref hg, .ref ha, .ref hq])), (hp, .inr (2, [.ref p0, .ref p1, .ref p2, .ref p3, .ref p4])), (ha, .inr (0, [.ref a0, .ref a1, .ref a2, .ref a3, .int (0 : Int32), .long (0 : Int64)]))])) (g_runV (q0 := 1) (ci := 2) B hK rfl rfl (k_setQuestion_same l (D := D) (cI := cI) (cL := cL) (cZ := cZ) hp p0 p1 p2 p3 p4 b1 (0 : Int32) (0 : Int32) (0 : Int32) (upd (fun _ => (0 : Int32)) b1 (0 : Int32)) (upd (fun _ => (0 : Int32)) b1 (nI b2)) (upd (fun _ => (0 : Int32)) b1 (nI b3)) (by omega)) (gPw.pre (av := [.ref hp, .int (nI b1), .int (0 : Int32), .int (0 : Int32), .int (0 : Int32)]) (wc := [(hp, .inr (2, [.ref p0, .ref p1, .ref p2, .ref p3, .ref p4])), (p0, .inl (cI, 12, .inl (upd (fun _ => (0 : Int32)) b1 (0 : Int32)))), (p1, .inl (cI, 12, .inl (upd (fun _ => (0 : Int32)) b1 (nI b2)))), (p2, .inl (cI, 12, .inl (upd (fun _ => (0 : Int32)) b1 (nI b3))))]) hK hN [1, 2, 3, 4] rfl (by decide)) gX5_otherwise_X2_setQuestion rfl rfl kd_X2_setQuestion ⟨by decide, by decide⟩ (st := []) rfl (Nat.le_of_ble_eq_true rfl) dX5_otherwise_126 ⟨by decide, by decide⟩) hA (fun _ h => h) [1, 2, 3, 4] [0, 5] (wr := [(hb, .inr (5, [.ref hp, .ref ht, .ref hg, .ref ha, .ref hq])), (ha, .inr (0, [.ref a0, .ref a1, .ref a2, .ref a3, .int (0 : Int32), .long (0 : Int64)]))]) rfl rfl (by decide) (by decide) [0, 2, 1] (by decide) (fun _ => rfl) (fun u hu => ?_)
  refine g_iload B dX5_otherwise_129 7 rfl ?_
  exact g_iret_w B hr rfl hlocks () (rfl) (trivial) [] (by decide) rfl dX5_otherwise_131

set_option maxHeartbeats 4000000 in
set_option maxRecDepth 100000 in
theorem k_fewest_v (l : Launch) {D : va_G} {cI cL cZ : ClassId} (hb : Nat) (hp : Nat) (ht : Nat) (hg : Nat) (ha : Nat) (hq : Nat) (a0 : Nat) (a1 : Nat) (a2 : Nat) (a3 : Nat)  : PM l yX5_fewest wsX5_fewest ({ frames := 2, cells := 0, slots := 0, locals := 48 } : Room) D (gTys cI cL cZ) [.ref hb] [(hb, .inr (5, [.ref hp, .ref ht, .ref hg, .ref ha, .ref hq])), (ha, .inr (0, [.ref a0, .ref a1, .ref a2, .ref a3, .int (0 : Int32), .long (0 : Int64)]))] (fun (_ : Unit) => True) (fun (_ : Unit) => some (.int (0 : Int32))) := by
  refine PM.ofG cX5_fewest 3 (some .int) (by decide +kernel) rfl (Nat.le_of_ble_eq_true rfl) ?_
  intro p e s m below meth c B hr hlocks hname hK hN
  refine g_aload_n B dX5_fewest_0 0 rfl ?_
  refine g_get (C := RX5) (T := TX5) (N := 5) (ci := 5) B hK hin_X5_fewest_RX5 0 rfl rfl 3 (by decide) (List.mem_of_getElem? (i := 1) rfl) rfl (v := .ref ha) rfl dX5_fewest_1 ?_
  refine g_getN (C := RX0) (T := TX0) (N := 6) (ci := 0) B hK hin_X5_fewest_RX0 1 rfl rfl 4 (by decide) hN 4 rfl rfl (v := .int (0 : Int32)) rfl dX5_fewest_4 ?_
  refine g_bipush (v := (12 : Int32)) B dX5_fewest_7 (by decide) ?_
  refine g_icmp_le (tgt := 14) B dX5_fewest_9 (by decide) (fun _ => ?_) (fun c1 => absurd (by decide) c1)
  refine g_aload_n B dX5_fewest_14 0 rfl ?_
  refine g_get (C := RX5) (T := TX5) (N := 5) (ci := 5) B hK hin_X5_fewest_RX5 0 rfl rfl 3 (by decide) (List.mem_of_getElem? (i := 1) rfl) rfl (v := .ref ha) rfl dX5_fewest_15 ?_
  refine g_aload_n B dX5_fewest_18 0 rfl ?_
  refine g_get (C := RX5) (T := TX5) (N := 5) (ci := 5) B hK hin_X5_fewest_RX5 0 rfl rfl 3 (by decide) (List.mem_of_getElem? (i := 1) rfl) rfl (v := .ref ha) rfl dX5_fewest_19 ?_
  refine g_callP (g_runV (q0 := 1) (ci := 0) B hK rfl rfl (PM.met (k_allKnown l (D := D) (cI := cI) (cL := cL) (cZ := cZ) ha a0 a1 a2 a3 )) (gPp.pre (av := [.ref ha]) (wc := [(ha, .inr (0, [.ref a0, .ref a1, .ref a2, .ref a3, .int (0 : Int32), .long (0 : Int64)]))]) hK hN [1] rfl (by decide)) gX5_fewest_X0_allKnown rfl rfl kd_X0_allKnown ⟨by decide, by decide⟩ (st := [.ref ha]) rfl (Nat.le_of_ble_eq_true rfl) dX5_fewest_22 ⟨by decide, by decide⟩) (fun u hu => ?_)
  refine g_callP (g_runV (q0 := 1) (ci := 0) B hK rfl rfl (PM.met (k_foundBy_0 l (D := D) (cI := cI) (cL := cL) (cZ := cZ) ha a0 a1 a2 a3 (0 : Int32) (0 : Int64) )) (gPp.pre (av := [.ref ha, .long (0 : Int64)]) (wc := [(ha, .inr (0, [.ref a0, .ref a1, .ref a2, .ref a3, .int (0 : Int32), .long (0 : Int64)]))]) hK hN [1] rfl (by decide)) gX5_fewest_X0_foundBy rfl rfl kd_X0_foundBy ⟨by decide, by decide⟩ (st := []) rfl (Nat.le_of_ble_eq_true rfl) dX5_fewest_25 ⟨by decide, by decide⟩) (fun u hu => ?_)
  refine g_ldc2 (v := (16777215 : Int64)) B dX5_fewest_28 (List.mem_of_getElem? (i := 2) rfl) ?_
  refine g_land (v := (0 : Int64)) B dX5_fewest_31 (by decide) ?_
  refine g_lstore_n (lv' := [(0, .ref hb), (1, .long (0 : Int64))]) B dX5_fewest_32 rfl (by decide) [1, 0] rfl ?_
  refine g_aload_n B dX5_fewest_33 0 rfl ?_
  refine g_get (C := RX5) (T := TX5) (N := 5) (ci := 5) B hK hin_X5_fewest_RX5 0 rfl rfl 3 (by decide) (List.mem_of_getElem? (i := 1) rfl) rfl (v := .ref ha) rfl dX5_fewest_34 ?_
  refine g_getN (C := RX0) (T := TX0) (N := 6) (ci := 0) B hK hin_X5_fewest_RX0 1 rfl rfl 3 (by decide) hN 6 rfl rfl (v := .ref a3) rfl dX5_fewest_37 ?_
  refine g_aload_n B dX5_fewest_40 0 rfl ?_
  refine g_get (C := RX5) (T := TX5) (N := 5) (ci := 5) B hK hin_X5_fewest_RX5 0 rfl rfl 3 (by decide) (List.mem_of_getElem? (i := 1) rfl) rfl (v := .ref ha) rfl dX5_fewest_41 ?_
  refine g_getN (C := RX0) (T := TX0) (N := 6) (ci := 0) B hK hin_X5_fewest_RX0 1 rfl rfl 4 (by decide) hN 4 rfl rfl (v := .int (0 : Int32)) rfl dX5_fewest_44 ?_
  refine g_iconst (v := (0 : Int32)) B dX5_fewest_47 (by decide) ?_
  refine g_lload_n B dX5_fewest_48 1 rfl ?_
  refine g_iconst (v := (0 : Int32)) B dX5_fewest_49 (by decide) ?_
  refine g_aload_n B dX5_fewest_50 0 rfl ?_
  refine g_get (C := RX5) (T := TX5) (N := 5) (ci := 5) B hK hin_X5_fewest_RX5 0 rfl rfl 3 (by decide) (List.mem_of_getElem? (i := 1) rfl) rfl (v := .ref ha) rfl dX5_fewest_51 ?_
  refine g_getN (C := RX0) (T := TX0) (N := 6) (ci := 0) B hK hin_X5_fewest_RX0 1 rfl rfl 4 (by decide) hN 4 rfl rfl (v := .int (0 : Int32)) rfl dX5_fewest_54 ?_
  refine g_callP (g_runS B (PM.met (k_fewestFrom_0 l (D := D) (cI := cI) (cL := cL) (cZ := cZ) a3 )) (gPp.pre (av := [.ref a3, .int (0 : Int32), .int (0 : Int32), .long (0 : Int64), .int (0 : Int32), .int (0 : Int32)]) (wc := []) hK hN [] rfl (by decide)) gX5_fewest_X5_fewestFrom rfl kd_X5_fewestFrom ⟨by decide, by decide⟩ (st := []) rfl (Nat.le_of_ble_eq_true rfl) dX5_fewest_57 ⟨by decide, by decide⟩) (fun u hu => ?_)
  exact g_iret_p B hr rfl hlocks () (rfl) (trivial) dX5_fewest_60

set_option maxHeartbeats 4000000 in
set_option maxRecDepth 100000 in
theorem k_smallest_v (l : Launch) {D : va_G} {cI cL cZ : ClassId} (hb : Nat) (hp : Nat) (ht : Nat) (hg : Nat) (ha : Nat) (hq : Nat) (p0 : Nat) (p1 : Nat) (p2 : Nat) (p3 : Nat) (p4 : Nat) (t0 : Nat) (fp : Nat → Int32) (ts : Int32) (tr : Int32) (tf : Int64) (ed : Nat) (t : Nat) (h1 : ed < 24) (ht1 : t < 10000) : WM l yX5_smallest wsX5_smallest ({ frames := 3, cells := 0, slots := 0, locals := 69 } : Room) D (gTys cI cL cZ) [.ref hb, .int (nI ed), .int (nI t)] [(hb, .inr (5, [.ref hp, .ref ht, .ref hg, .ref ha, .ref hq])), (hp, .inr (2, [.ref p0, .ref p1, .ref p2, .ref p3, .ref p4])), (p0, .inl (cI, 12, .inl (fun _ => (0 : Int32)))), (p1, .inl (cI, 12, .inl (fun _ => (0 : Int32)))), (p2, .inl (cI, 12, .inl (fun _ => (0 : Int32)))), (p3, .inl (cI, 24, .inl (fun _ => (-1 : Int32)))), (p4, .inl (cZ, 12, .inl (fun _ => (0 : Int32)))), (ht, .inr (4, [.ref t0, .int ts, .int tr, .long tf])), (t0, .inl (cI, 30, .inl fp))] (fun (r : Int32) => r = if ed = 1 then nI (t / 100 * 100) else -1) (fun (r : Int32) => some (.int r)) (fun (r : Int32) => []) := by
  refine WM.ofG cX5_smallest 5 (some .int) (by decide +kernel) rfl (Nat.le_of_ble_eq_true rfl) ?_
  intro p e s m below meth c A hA B hr hlocks hname hK hN
  refine g_iload_n B dX5_smallest_0 1 rfl ?_
  refine g_callP (g_runS B (PM.met (k_checkEdge_n l (D := D) (cI := cI) (cL := cL) (cZ := cZ) ed (by omega))) (gPp.pre (av := [.int (nI ed)]) (wc := []) hK hN [] rfl (by decide)) gX5_smallest_X5_checkEdge rfl kd_X5_checkEdge ⟨by decide, by decide⟩ (st := []) rfl (Nat.le_of_ble_eq_true rfl) dX5_smallest_1 ⟨by decide, by decide⟩) (fun u hu => ?_)
  refine g_iload_n B dX5_smallest_4 2 rfl ?_
  refine g_callP (g_runS B (PM.met (k_checkCase_n l (D := D) (cI := cI) (cL := cL) (cZ := cZ) t (by omega))) (gPp.pre (av := [.int (nI t)]) (wc := []) hK hN [] rfl (by decide)) gX5_smallest_X5_checkCase rfl kd_X5_checkCase ⟨by decide, by decide⟩ (st := []) rfl (Nat.le_of_ble_eq_true rfl) dX5_smallest_5 ⟨by decide, by decide⟩) (fun u hu => ?_)
  refine g_iload_n B dX5_smallest_8 2 rfl ?_
  refine g_iload_n B dX5_smallest_9 2 rfl ?_
  refine g_bipush (v := (100 : Int32)) B dX5_smallest_10 (by decide) ?_
  refine g_irem (v := nI (t % 100)) B dX5_smallest_12 (by decide) (pk_rem (a := t) (d := 100) (by omega) (by decide) (by decide)) ?_
  refine g_isub (v := nI (t - (t % 100))) B dX5_smallest_13 (pk_sub (by omega)) ?_
  refine g_istore_n (lv' := [(0, .ref hb), (1, .int (nI ed)), (2, .int (nI t)), (3, .int (nI (t - (t % 100))))]) B dX5_smallest_14 rfl (by decide) [1, 2, 3, 0] rfl ?_
  refine g_iload_n B dX5_smallest_15 3 rfl ?_
  refine g_istore (lv' := [(0, .ref hb), (1, .int (nI ed)), (2, .int (nI t)), (3, .int (nI (t - (t % 100)))), (4, .int (nI (t - (t % 100))))]) B dX5_smallest_16 (by decide) [1, 2, 3, 4, 0] rfl ?_
  refine g_loop (σ := Nat × (Nat → Int32) × Int32 × Int32 × Int64) (fun x9 => t - t % 100 ≤ x9.1 ∧ x9.1 ≤ t - t % 100 + 100 ∧ (ed = 1 → x9.1 = t - t % 100)) (fun x9 => t - t % 100 + 101 - x9.1) (fun x9 => 0) (fun x9 => 0) (fun x9 => [(hb, .inr (5, [.ref hp, .ref ht, .ref hg, .ref ha, .ref hq])), (hp, .inr (2, [.ref p0, .ref p1, .ref p2, .ref p3, .ref p4])), (p0, .inl (cI, 12, .inl (fun _ => (0 : Int32)))), (p1, .inl (cI, 12, .inl (fun _ => (0 : Int32)))), (p2, .inl (cI, 12, .inl (fun _ => (0 : Int32)))), (p3, .inl (cI, 24, .inl (fun _ => (-1 : Int32)))), (p4, .inl (cZ, 12, .inl (fun _ => (0 : Int32)))), (ht, .inr (4, [.ref t0, .int x9.2.2.1, .int x9.2.2.2.1, .long x9.2.2.2.2])), (t0, .inl (cI, 30, .inl x9.2.1))]) (fun x9 => [(0, .ref hb), (1, .int (nI ed)), (2, .int (nI t)), (3, .int (nI (t - t % 100))), (4, .int (nI x9.1))]) (fun x9 hI ih18 => ?_) (t - t % 100, fp, ts, tr, tf) (by (try dsimp only); omega) rfl rfl rfl rfl
  obtain ⟨k, fp1, ts1, tr1, tf1⟩ := x9
  try dsimp only at hI ih18 ⊢
  refine g_iload B dX5_smallest_18 4 rfl ?_
  refine g_iload_n B dX5_smallest_20 3 rfl ?_
  refine g_bipush (v := (100 : Int32)) B dX5_smallest_21 (by decide) ?_
  refine g_iadd (v := nI ((t - t % 100) + 100)) B dX5_smallest_23 (nI_add (t - t % 100) 100) ?_
  refine g_ncmp_ge (tgt := 63) B k ((t - t % 100) + 100) rfl rfl (by omega) (by omega) dX5_smallest_24 (by decide) (fun c3 => ?_) (fun c3 => ?_)
  · refine g_iconst (v := (-1 : Int32)) B dX5_smallest_63 (by decide) ?_
    exact g_iret_w B hr rfl hlocks (-1 : Int32) (rfl) (by rw [if_neg (by omega)]) [] (by decide) rfl dX5_smallest_64
  · refine g_aload_n B dX5_smallest_27 0 rfl ?_
    refine g_get (C := RX5) (T := TX5) (N := 5) (ci := 5) B hK hin_X5_smallest_RX5 0 rfl rfl 0 (by decide) (List.mem_of_getElem? (i := 1) rfl) rfl (v := .ref hp) rfl dX5_smallest_28 ?_
    refine g_iload B dX5_smallest_31 4 rfl ?_
    refine g_aload_n B dX5_smallest_33 0 rfl ?_
    refine g_get (C := RX5) (T := TX5) (N := 5) (ci := 5) B hK hin_X5_smallest_RX5 0 rfl rfl 1 (by decide) (List.mem_of_getElem? (i := 2) rfl) rfl (v := .ref ht) rfl dX5_smallest_34 ?_
    refine g_callW (w2 := (fun (fp2_4 : Nat → Int32) => [(hb, .inr (5, [.ref hp, .ref ht, .ref hg, .ref ha, .ref hq])), (hp, .inr (2, [.ref p0, .ref p1, .ref p2, .ref p3, .ref p4])), (p0, .inl (cI, 12, .inl (fun _ => (0 : Int32)))), (p1, .inl (cI, 12, .inl (fun _ => (0 : Int32)))), (p2, .inl (cI, 12, .inl (fun _ => (0 : Int32)))), (p3, .inl (cI, 24, .inl (fun _ => (-1 : Int32)))), (p4, .inl (cZ, 12, .inl (fun _ => (0 : Int32)))), (ht, .inr (4, [.ref t0, .int (1 : Int32), .int (1 : Int32), .long (2 : Int64)])), (t0, .inl (cI, 30, .inl fp2_4))])) (g_runV (q0 := 1) (ci := 2) B hK rfl rfl (k_follow l (D := D) (cI := cI) (cL := cL) (cZ := cZ) hp p0 p1 p2 p3 p4 ht t0 fp1 ts1 tr1 tf1 k (by omega)) (gPw.pre (av := [.ref hp, .int (nI k), .ref ht]) (wc := [(hp, .inr (2, [.ref p0, .ref p1, .ref p2, .ref p3, .ref p4])), (p0, .inl (cI, 12, .inl (fun _ => (0 : Int32)))), (p1, .inl (cI, 12, .inl (fun _ => (0 : Int32)))), (p2, .inl (cI, 12, .inl (fun _ => (0 : Int32)))), (p3, .inl (cI, 24, .inl (fun _ => (-1 : Int32)))), (p4, .inl (cZ, 12, .inl (fun _ => (0 : Int32)))), (ht, .inr (4, [.ref t0, .int ts1, .int tr1, .long tf1])), (t0, .inl (cI, 30, .inl fp1))]) hK hN [1, 2, 3, 4, 5, 6, 7, 8] rfl (by decide)) gX5_smallest_X2_follow rfl rfl kd_X2_follow ⟨by decide, by decide⟩ (st := []) rfl (Nat.le_of_ble_eq_true rfl) dX5_smallest_37 ⟨by decide, by decide⟩) hA (fun _ h => h) [1, 2, 3, 4, 5, 6, 7, 8] [0] (wr := [(hb, .inr (5, [.ref hp, .ref ht, .ref hg, .ref ha, .ref hq]))]) rfl rfl (by decide) (by decide) [0, 1, 2, 3, 4, 5, 6, 7, 8] (by decide) (fun _ => rfl) (fun u hu => ?_)
    obtain ⟨fp2_4, e9⟩ : ∃ z, z = u := ⟨_, rfl⟩; subst e9
    try dsimp only at hu ⊢
    have hu4 := hu
    refine g_aload_n B dX5_smallest_40 0 rfl ?_
    refine g_get (C := RX5) (T := TX5) (N := 5) (ci := 5) B hK hin_X5_smallest_RX5 0 rfl rfl 1 (by decide) (List.mem_of_getElem? (i := 2) rfl) rfl (v := .ref ht) rfl dX5_smallest_41 ?_
    refine g_getN (C := RX4) (T := TX4) (N := 4) (ci := 4) B hK hin_X5_smallest_RX4 7 rfl rfl 3 (by decide) hN 0 rfl rfl (v := .long (2 : Int64)) rfl dX5_smallest_44 ?_
    refine g_iload_n B dX5_smallest_47 1 rfl ?_
    refine g_callP (g_runS B (PM.met (c_X5_contains l (D := D) (cI := cI) (cL := cL) (cZ := cZ) (2 : Int64) ed (by omega))) (gPp.pre (av := [.long (2 : Int64), .int (nI ed)]) (wc := []) hK hN [] rfl (by decide)) gX5_smallest_X5_contains rfl kd_X5_contains ⟨by decide, by decide⟩ (st := []) rfl (Nat.le_of_ble_eq_true rfl) dX5_smallest_48 ⟨by decide, by decide⟩) (fun u hu => ?_)
    obtain ⟨r_5, e9⟩ : ∃ z, z = u := ⟨_, rfl⟩; subst e9
    try dsimp only at hu ⊢
    have e5_0 := hu
    subst e5_0
    refine g_if_eq (tgt := 57) B dX5_smallest_51 (by decide) (fun c6 => ?_) (fun c6 => ?_)
    · refine g_iinc (lv' := [(0, .ref hb), (1, .int (nI ed)), (2, .int (nI t)), (3, .int (nI (t - t % 100))), (4, .int (nI (k + 1)))]) B dX5_smallest_57 4 rfl (nI_1 k) (by decide) [1, 2, 3, 4, 0] rfl ?_
      refine g_goto (tgt := 18) B dX5_smallest_60 (by decide) ?_
      exact ih18 (k + 1, fp2_4, (1 : Int32), (1 : Int32), (2 : Int64)) (by (try dsimp only); exact ⟨by omega, by omega, fun h8 => absurd c6 (by subst h8; decide)⟩) (by (try dsimp only); omega)
    · refine g_iload B dX5_smallest_54 4 rfl ?_
      exact g_iret_w B hr rfl hlocks (nI k) (rfl) (by have h9 : ed = 1 := (by rw [bI_eq0, hasB_2 (by omega)] at c6; simpa using c6); rw [if_pos h9]; congr 1; omega) [] (by decide) rfl dX5_smallest_56

