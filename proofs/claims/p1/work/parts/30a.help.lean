/-! the helpers of the law -/
theorem kd_X5_ask : yX5_ask.cls ≠ "java/lang/invoke/MethodHandle" ∧ yX5_ask.cls ≠ "java/lang/invoke/VarHandle" ∧ (parseMethodDescriptor yX5_ask.desc).map (fun d => d.parameters.length) = some 4 := by decide +kernel
theorem kd_X5_bad : yX5_bad.cls ≠ "java/lang/invoke/MethodHandle" ∧ yX5_bad.cls ≠ "java/lang/invoke/VarHandle" ∧ (parseMethodDescriptor yX5_bad.desc).map (fun d => d.parameters.length) = some 2 := by decide +kernel
theorem kd_X5_breaks : yX5_breaks.cls ≠ "java/lang/invoke/MethodHandle" ∧ yX5_breaks.cls ≠ "java/lang/invoke/VarHandle" ∧ (parseMethodDescriptor yX5_breaks.desc).map (fun d => d.parameters.length) = some 2 := by decide +kernel
theorem kd_X5_brokenBy : yX5_brokenBy.cls ≠ "java/lang/invoke/MethodHandle" ∧ yX5_brokenBy.cls ≠ "java/lang/invoke/VarHandle" ∧ (parseMethodDescriptor yX5_brokenBy.desc).map (fun d => d.parameters.length) = some 1 := by decide +kernel
theorem kd_X5_draw : yX5_draw.cls ≠ "java/lang/invoke/MethodHandle" ∧ yX5_draw.cls ≠ "java/lang/invoke/VarHandle" ∧ (parseMethodDescriptor yX5_draw.desc).map (fun d => d.parameters.length) = some 1 := by decide +kernel
theorem kd_X5_edge : yX5_edge.cls ≠ "java/lang/invoke/MethodHandle" ∧ yX5_edge.cls ≠ "java/lang/invoke/VarHandle" ∧ (parseMethodDescriptor yX5_edge.desc).map (fun d => d.parameters.length) = some 2 := by decide +kernel
theorem kd_X5_generate : yX5_generate.cls ≠ "java/lang/invoke/MethodHandle" ∧ yX5_generate.cls ≠ "java/lang/invoke/VarHandle" ∧ (parseMethodDescriptor yX5_generate.desc).map (fun d => d.parameters.length) = some 0 := by decide +kernel
theorem kd_X5_lead : yX5_lead.cls ≠ "java/lang/invoke/MethodHandle" ∧ yX5_lead.cls ≠ "java/lang/invoke/VarHandle" ∧ (parseMethodDescriptor yX5_lead.desc).map (fun d => d.parameters.length) = some 3 := by decide +kernel
theorem kd_X5_mutate : yX5_mutate.cls ≠ "java/lang/invoke/MethodHandle" ∧ yX5_mutate.cls ≠ "java/lang/invoke/VarHandle" ∧ (parseMethodDescriptor yX5_mutate.desc).map (fun d => d.parameters.length) = some 0 := by decide +kernel
theorem kd_X5_ofKnown : yX5_ofKnown.cls ≠ "java/lang/invoke/MethodHandle" ∧ yX5_ofKnown.cls ≠ "java/lang/invoke/VarHandle" ∧ (parseMethodDescriptor yX5_ofKnown.desc).map (fun d => d.parameters.length) = some 2 := by decide +kernel
theorem kd_X5_otherwise : yX5_otherwise.cls ≠ "java/lang/invoke/MethodHandle" ∧ yX5_otherwise.cls ≠ "java/lang/invoke/VarHandle" ∧ (parseMethodDescriptor yX5_otherwise.desc).map (fun d => d.parameters.length) = some 3 := by decide +kernel
theorem kd_X5_relation : yX5_relation.cls ≠ "java/lang/invoke/MethodHandle" ∧ yX5_relation.cls ≠ "java/lang/invoke/VarHandle" ∧ (parseMethodDescriptor yX5_relation.desc).map (fun d => d.parameters.length) = some 3 := by decide +kernel
theorem kd_X5_shrink : yX5_shrink.cls ≠ "java/lang/invoke/MethodHandle" ∧ yX5_shrink.cls ≠ "java/lang/invoke/VarHandle" ∧ (parseMethodDescriptor yX5_shrink.desc).map (fun d => d.parameters.length) = some 1 := by decide +kernel
theorem kd_X5_smallest : yX5_smallest.cls ≠ "java/lang/invoke/MethodHandle" ∧ yX5_smallest.cls ≠ "java/lang/invoke/VarHandle" ∧ (parseMethodDescriptor yX5_smallest.desc).map (fun d => d.parameters.length) = some 2 := by decide +kernel
theorem kd_X5_taste : yX5_taste.cls ≠ "java/lang/invoke/MethodHandle" ∧ yX5_taste.cls ≠ "java/lang/invoke/VarHandle" ∧ (parseMethodDescriptor yX5_taste.desc).map (fun d => d.parameters.length) = some 1 := by decide +kernel
theorem kd_X5_weights : yX5_weights.cls ≠ "java/lang/invoke/MethodHandle" ∧ yX5_weights.cls ≠ "java/lang/invoke/VarHandle" ∧ (parseMethodDescriptor yX5_weights.desc).map (fun d => d.parameters.length) = some 4 := by decide +kernel
set_option maxHeartbeats 4000000 in
set_option maxRecDepth 100000 in
theorem h_ask_x0 (l : Launch) (hfl : l.stackTraces = false) {D : va_G} {cI cL cZ : ClassId} (hb : Nat) (a1 : Int32) (a2 : Int32) (a3 : Int32) (a4 : Int32) (hp : Nat) (ht : Nat) (hg : Nat) (ha : Nat) (hq : Nat) (ho : Nat) (fo : Nat → Int64) (h_a1 : inR a1 0 11 = false) : HM l yL_ask wsL_ask ({ frames := 8, cells := 1, slots := 6, locals := 144 } : Room) D (gTys cI cL cZ) [.ref hb, .int a1, .int a2, .int a3, .int a4, .ref ho] [(hb, .inr (5, [.ref hp, .ref ht, .ref hg, .ref ha, .ref hq])), (ho, .inl (cL, 1, .inr (.inl fo)))] (fun (_ : Unit) => True) (fun (_ : Unit) => some (.int (1 : Int32))) (fun (_ : Unit) => [(ho, .inl (cL, 1, .inr (.inl fo)))]) := by
  refine HM.ofG cL_ask 7 (some .int) (by decide +kernel) rfl (Nat.le_of_ble_eq_true rfl) ?_
  intro p e s m below meth c A hA htab hZ hXS B hr hlocks hK hN
  refine g_aload B dL_ask_0 5 rfl ?_
  refine g_iconst (v := (0 : Int32)) B dL_ask_2 (by decide) ?_
  refine g_aload_n B dL_ask_3 0 rfl ?_
  refine g_iload_n B dL_ask_4 1 rfl ?_
  refine g_iload_n B dL_ask_5 2 rfl ?_
  refine g_iload_n B dL_ask_6 3 rfl ?_
  refine g_iload B dL_ask_7 4 rfl ?_
  refine g_xcatch (name := "") (wr := [(hb, .inr (5, [.ref hp, .ref ht, .ref hg, .ref ha, .ref hq])), (ho, .inl (cL, 1, .inr (.inl fo)))]) B (g_xrunV (q0 := 0) (ci := 5) B (k_ask_x0 l hfl (D := D) (cI := cI) (cL := cL) (cZ := cZ) hb a1 a2 a3 a4 (by first | assumption | omega)) hK rfl rfl hN hZ hXS hA [] rfl (by decide) gL_ask_X5_ask rfl rfl kd_X5_ask ⟨by decide, by decide⟩ (st := [.int (0 : Int32), .ref ho]) rfl (Nat.le_of_ble_eq_true rfl) dL_ask_9 ⟨by decide, by decide⟩) hXS hA [] [0, 1] rfl rfl (by decide) (by decide) [] ⟨0, 14, 17, 13⟩ [⟨0, 14, 21, 15⟩] (htab.trans rfl) (fun z hz => by cases hz) (by decide) (by decide) (List.mem_of_getElem? (i := 1) rfl) 2 rfl (fun x1 => ?_)
  refine g_astore (lv' := [(0, .ref hb), (1, .int a1), (2, .int a2), (3, .int a3), (4, .int a4), (5, .ref ho), (6, .ref x1)]) B dL_ask_17 (by decide) [1, 2, 3, 4, 5, 6, 0] rfl ?_
  refine g_iconst (v := (1 : Int32)) B dL_ask_19 (by decide) ?_
  refine g_widen (k := 1) (n := 6) (by (try dsimp only); omega) (by (try dsimp only); omega) ?_
  exact g_iret_w B hr rfl hlocks () (rfl) (trivial) [1] (by decide) rfl dL_ask_20

set_option maxHeartbeats 4000000 in
set_option maxRecDepth 100000 in
theorem h_ask_x1 (l : Launch) (hfl : l.stackTraces = false) {D : va_G} {cI cL cZ : ClassId} (hb : Nat) (a1 : Int32) (a2 : Int32) (a3 : Int32) (a4 : Int32) (hp : Nat) (ht : Nat) (hg : Nat) (ha : Nat) (hq : Nat) (ho : Nat) (fo : Nat → Int64) (h_a1 : inR a1 0 11 = true) (h_a2 : inR a2 0 3 = false) : HM l yL_ask wsL_ask ({ frames := 8, cells := 1, slots := 6, locals := 144 } : Room) D (gTys cI cL cZ) [.ref hb, .int a1, .int a2, .int a3, .int a4, .ref ho] [(hb, .inr (5, [.ref hp, .ref ht, .ref hg, .ref ha, .ref hq])), (ho, .inl (cL, 1, .inr (.inl fo)))] (fun (_ : Unit) => True) (fun (_ : Unit) => some (.int (1 : Int32))) (fun (_ : Unit) => [(ho, .inl (cL, 1, .inr (.inl fo)))]) := by
  refine HM.ofG cL_ask 7 (some .int) (by decide +kernel) rfl (Nat.le_of_ble_eq_true rfl) ?_
  intro p e s m below meth c A hA htab hZ hXS B hr hlocks hK hN
  refine g_aload B dL_ask_0 5 rfl ?_
  refine g_iconst (v := (0 : Int32)) B dL_ask_2 (by decide) ?_
  refine g_aload_n B dL_ask_3 0 rfl ?_
  refine g_iload_n B dL_ask_4 1 rfl ?_
  refine g_iload_n B dL_ask_5 2 rfl ?_
  refine g_iload_n B dL_ask_6 3 rfl ?_
  refine g_iload B dL_ask_7 4 rfl ?_
  refine g_xcatch (name := "") (wr := [(hb, .inr (5, [.ref hp, .ref ht, .ref hg, .ref ha, .ref hq])), (ho, .inl (cL, 1, .inr (.inl fo)))]) B (g_xrunV (q0 := 0) (ci := 5) B (k_ask_x1 l hfl (D := D) (cI := cI) (cL := cL) (cZ := cZ) hb a1 a2 a3 a4 (by first | assumption | omega) (by first | assumption | omega)) hK rfl rfl hN hZ hXS hA [] rfl (by decide) gL_ask_X5_ask rfl rfl kd_X5_ask ⟨by decide, by decide⟩ (st := [.int (0 : Int32), .ref ho]) rfl (Nat.le_of_ble_eq_true rfl) dL_ask_9 ⟨by decide, by decide⟩) hXS hA [] [0, 1] rfl rfl (by decide) (by decide) [] ⟨0, 14, 17, 13⟩ [⟨0, 14, 21, 15⟩] (htab.trans rfl) (fun z hz => by cases hz) (by decide) (by decide) (List.mem_of_getElem? (i := 1) rfl) 2 rfl (fun x1 => ?_)
  refine g_astore (lv' := [(0, .ref hb), (1, .int a1), (2, .int a2), (3, .int a3), (4, .int a4), (5, .ref ho), (6, .ref x1)]) B dL_ask_17 (by decide) [1, 2, 3, 4, 5, 6, 0] rfl ?_
  refine g_iconst (v := (1 : Int32)) B dL_ask_19 (by decide) ?_
  refine g_widen (k := 1) (n := 6) (by (try dsimp only); omega) (by (try dsimp only); omega) ?_
  exact g_iret_w B hr rfl hlocks () (rfl) (trivial) [1] (by decide) rfl dL_ask_20

set_option maxHeartbeats 4000000 in
set_option maxRecDepth 100000 in
theorem h_ask_x2 (l : Launch) (hfl : l.stackTraces = false) {D : va_G} {cI cL cZ : ClassId} (hb : Nat) (a1 : Int32) (a2 : Int32) (a3 : Int32) (a4 : Int32) (hp : Nat) (ht : Nat) (hg : Nat) (ha : Nat) (hq : Nat) (ho : Nat) (fo : Nat → Int64) (h_a1 : inR a1 0 11 = true) (h_a2 : inR a2 0 3 = true) (h_a3 : inR a3 0 2 = false) : HM l yL_ask wsL_ask ({ frames := 8, cells := 1, slots := 6, locals := 145 } : Room) D (gTys cI cL cZ) [.ref hb, .int a1, .int a2, .int a3, .int a4, .ref ho] [(hb, .inr (5, [.ref hp, .ref ht, .ref hg, .ref ha, .ref hq])), (ho, .inl (cL, 1, .inr (.inl fo)))] (fun (_ : Unit) => True) (fun (_ : Unit) => some (.int (2 : Int32))) (fun (_ : Unit) => [(ho, .inl (cL, 1, .inr (.inl fo)))]) := by
  refine HM.ofG cL_ask 7 (some .int) (by decide +kernel) rfl (Nat.le_of_ble_eq_true rfl) ?_
  intro p e s m below meth c A hA htab hZ hXS B hr hlocks hK hN
  refine g_aload B dL_ask_0 5 rfl ?_
  refine g_iconst (v := (0 : Int32)) B dL_ask_2 (by decide) ?_
  refine g_aload_n B dL_ask_3 0 rfl ?_
  refine g_iload_n B dL_ask_4 1 rfl ?_
  refine g_iload_n B dL_ask_5 2 rfl ?_
  refine g_iload_n B dL_ask_6 3 rfl ?_
  refine g_iload B dL_ask_7 4 rfl ?_
  refine g_xcatch (name := "") (wr := [(hb, .inr (5, [.ref hp, .ref ht, .ref hg, .ref ha, .ref hq])), (ho, .inl (cL, 1, .inr (.inl fo)))]) B (g_xrunV (q0 := 0) (ci := 5) B (k_ask_x2 l hfl (D := D) (cI := cI) (cL := cL) (cZ := cZ) hb a1 a2 a3 a4 (by first | assumption | omega) (by first | assumption | omega) (by first | assumption | omega)) hK rfl rfl hN hZ hXS hA [] rfl (by decide) gL_ask_X5_ask rfl rfl kd_X5_ask ⟨by decide, by decide⟩ (st := [.int (0 : Int32), .ref ho]) rfl (Nat.le_of_ble_eq_true rfl) dL_ask_9 ⟨by decide, by decide⟩) hXS hA [] [0, 1] rfl rfl (by decide) (by decide) [⟨0, 14, 17, 13⟩] ⟨0, 14, 21, 15⟩ [] (htab.trans rfl) (fun z hz => by rw [List.mem_singleton.mp hz]; exact Or.inr ⟨by decide, "java/lang/IndexOutOfBoundsException", List.mem_of_getElem? (i := 1) rfl, by decide +kernel⟩) (by decide) (by decide) (List.mem_of_getElem? (i := 2) rfl) 0 rfl (fun x1 => ?_)
  refine g_astore (lv' := [(0, .ref hb), (1, .int a1), (2, .int a2), (3, .int a3), (4, .int a4), (5, .ref ho), (6, .ref x1)]) B dL_ask_21 (by decide) [1, 2, 3, 4, 5, 6, 0] rfl ?_
  refine g_iconst (v := (2 : Int32)) B dL_ask_23 (by decide) ?_
  refine g_widen (k := 1) (n := 6) (by (try dsimp only); omega) (by (try dsimp only); omega) ?_
  exact g_iret_w B hr rfl hlocks () (rfl) (trivial) [1] (by decide) rfl dL_ask_24

set_option maxHeartbeats 4000000 in
set_option maxRecDepth 100000 in
theorem h_ask_x3 (l : Launch) (hfl : l.stackTraces = false) {D : va_G} {cI cL cZ : ClassId} (hb : Nat) (a1 : Int32) (a2 : Int32) (a3 : Int32) (a4 : Int32) (hp : Nat) (ht : Nat) (hg : Nat) (ha : Nat) (hq : Nat) (ho : Nat) (fo : Nat → Int64) (h_a1 : inR a1 0 11 = true) (h_a2 : inR a2 0 3 = true) (h_a3 : inR a3 0 2 = true) (h_a4 : inR a4 0 9 = false) : HM l yL_ask wsL_ask ({ frames := 8, cells := 1, slots := 6, locals := 145 } : Room) D (gTys cI cL cZ) [.ref hb, .int a1, .int a2, .int a3, .int a4, .ref ho] [(hb, .inr (5, [.ref hp, .ref ht, .ref hg, .ref ha, .ref hq])), (ho, .inl (cL, 1, .inr (.inl fo)))] (fun (_ : Unit) => True) (fun (_ : Unit) => some (.int (2 : Int32))) (fun (_ : Unit) => [(ho, .inl (cL, 1, .inr (.inl fo)))]) := by
  refine HM.ofG cL_ask 7 (some .int) (by decide +kernel) rfl (Nat.le_of_ble_eq_true rfl) ?_
  intro p e s m below meth c A hA htab hZ hXS B hr hlocks hK hN
  refine g_aload B dL_ask_0 5 rfl ?_
  refine g_iconst (v := (0 : Int32)) B dL_ask_2 (by decide) ?_
  refine g_aload_n B dL_ask_3 0 rfl ?_
  refine g_iload_n B dL_ask_4 1 rfl ?_
  refine g_iload_n B dL_ask_5 2 rfl ?_
  refine g_iload_n B dL_ask_6 3 rfl ?_
  refine g_iload B dL_ask_7 4 rfl ?_
  refine g_xcatch (name := "") (wr := [(hb, .inr (5, [.ref hp, .ref ht, .ref hg, .ref ha, .ref hq])), (ho, .inl (cL, 1, .inr (.inl fo)))]) B (g_xrunV (q0 := 0) (ci := 5) B (k_ask_x3 l hfl (D := D) (cI := cI) (cL := cL) (cZ := cZ) hb a1 a2 a3 a4 (by first | assumption | omega) (by first | assumption | omega) (by first | assumption | omega) (by first | assumption | omega)) hK rfl rfl hN hZ hXS hA [] rfl (by decide) gL_ask_X5_ask rfl rfl kd_X5_ask ⟨by decide, by decide⟩ (st := [.int (0 : Int32), .ref ho]) rfl (Nat.le_of_ble_eq_true rfl) dL_ask_9 ⟨by decide, by decide⟩) hXS hA [] [0, 1] rfl rfl (by decide) (by decide) [⟨0, 14, 17, 13⟩] ⟨0, 14, 21, 15⟩ [] (htab.trans rfl) (fun z hz => by rw [List.mem_singleton.mp hz]; exact Or.inr ⟨by decide, "java/lang/IndexOutOfBoundsException", List.mem_of_getElem? (i := 1) rfl, by decide +kernel⟩) (by decide) (by decide) (List.mem_of_getElem? (i := 2) rfl) 0 rfl (fun x1 => ?_)
  refine g_astore (lv' := [(0, .ref hb), (1, .int a1), (2, .int a2), (3, .int a3), (4, .int a4), (5, .ref ho), (6, .ref x1)]) B dL_ask_21 (by decide) [1, 2, 3, 4, 5, 6, 0] rfl ?_
  refine g_iconst (v := (2 : Int32)) B dL_ask_23 (by decide) ?_
  refine g_widen (k := 1) (n := 6) (by (try dsimp only); omega) (by (try dsimp only); omega) ?_
  exact g_iret_w B hr rfl hlocks () (rfl) (trivial) [1] (by decide) rfl dL_ask_24

set_option maxHeartbeats 4000000 in
set_option maxRecDepth 100000 in
theorem h_lead_x0 (l : Launch) (hfl : l.stackTraces = false) {D : va_G} {cI cL cZ : ClassId} (hb : Nat) (a1 : Int32) (a2 : Int32) (a3 : Int32) (hp : Nat) (ht : Nat) (hg : Nat) (ha : Nat) (hq : Nat) (ho : Nat) (fo : Nat → Int64) (h_a1 : inR a1 0 11 = false) : HM l yL_lead wsL_lead ({ frames := 8, cells := 1, slots := 6, locals := 143 } : Room) D (gTys cI cL cZ) [.ref hb, .int a1, .int a2, .int a3, .ref ho] [(hb, .inr (5, [.ref hp, .ref ht, .ref hg, .ref ha, .ref hq])), (ho, .inl (cL, 1, .inr (.inl fo)))] (fun (_ : Unit) => True) (fun (_ : Unit) => some (.int (1 : Int32))) (fun (_ : Unit) => [(ho, .inl (cL, 1, .inr (.inl fo)))]) := by
  refine HM.ofG cL_lead 6 (some .int) (by decide +kernel) rfl (Nat.le_of_ble_eq_true rfl) ?_
  intro p e s m below meth c A hA htab hZ hXS B hr hlocks hK hN
  refine g_aload B dL_lead_0 4 rfl ?_
  refine g_iconst (v := (0 : Int32)) B dL_lead_2 (by decide) ?_
  refine g_aload_n B dL_lead_3 0 rfl ?_
  refine g_iload_n B dL_lead_4 1 rfl ?_
  refine g_iload_n B dL_lead_5 2 rfl ?_
  refine g_iload_n B dL_lead_6 3 rfl ?_
  refine g_xcatch (name := "") (wr := [(hb, .inr (5, [.ref hp, .ref ht, .ref hg, .ref ha, .ref hq])), (ho, .inl (cL, 1, .inr (.inl fo)))]) B (g_xrunV (q0 := 0) (ci := 5) B (k_lead_x0 l hfl (D := D) (cI := cI) (cL := cL) (cZ := cZ) hb a1 a2 a3 (by first | assumption | omega)) hK rfl rfl hN hZ hXS hA [] rfl (by decide) gL_lead_X5_lead rfl rfl kd_X5_lead ⟨by decide, by decide⟩ (st := [.int (0 : Int32), .ref ho]) rfl (Nat.le_of_ble_eq_true rfl) dL_lead_7 ⟨by decide, by decide⟩) hXS hA [] [0, 1] rfl rfl (by decide) (by decide) [] ⟨0, 12, 15, 13⟩ [] (htab.trans rfl) (fun z hz => by cases hz) (by decide) (by decide) (List.mem_of_getElem? (i := 1) rfl) 2 rfl (fun x1 => ?_)
  refine g_astore (lv' := [(0, .ref hb), (1, .int a1), (2, .int a2), (3, .int a3), (4, .ref ho), (5, .ref x1)]) B dL_lead_15 (by decide) [1, 2, 3, 4, 5, 0] rfl ?_
  refine g_iconst (v := (1 : Int32)) B dL_lead_17 (by decide) ?_
  refine g_widen (k := 1) (n := 6) (by (try dsimp only); omega) (by (try dsimp only); omega) ?_
  exact g_iret_w B hr rfl hlocks () (rfl) (trivial) [1] (by decide) rfl dL_lead_18

set_option maxHeartbeats 4000000 in
set_option maxRecDepth 100000 in
theorem h_lead_x1 (l : Launch) (hfl : l.stackTraces = false) {D : va_G} {cI cL cZ : ClassId} (hb : Nat) (a1 : Int32) (a2 : Int32) (a3 : Int32) (hp : Nat) (ht : Nat) (hg : Nat) (ha : Nat) (hq : Nat) (ho : Nat) (fo : Nat → Int64) (h_a1 : inR a1 0 11 = true) (h2 : ¬ a2 = -1) (h_a2 : inR a2 0 11 = false) : HM l yL_lead wsL_lead ({ frames := 8, cells := 1, slots := 6, locals := 143 } : Room) D (gTys cI cL cZ) [.ref hb, .int a1, .int a2, .int a3, .ref ho] [(hb, .inr (5, [.ref hp, .ref ht, .ref hg, .ref ha, .ref hq])), (ho, .inl (cL, 1, .inr (.inl fo)))] (fun (_ : Unit) => True) (fun (_ : Unit) => some (.int (1 : Int32))) (fun (_ : Unit) => [(ho, .inl (cL, 1, .inr (.inl fo)))]) := by
  refine HM.ofG cL_lead 6 (some .int) (by decide +kernel) rfl (Nat.le_of_ble_eq_true rfl) ?_
  intro p e s m below meth c A hA htab hZ hXS B hr hlocks hK hN
  refine g_aload B dL_lead_0 4 rfl ?_
  refine g_iconst (v := (0 : Int32)) B dL_lead_2 (by decide) ?_
  refine g_aload_n B dL_lead_3 0 rfl ?_
  refine g_iload_n B dL_lead_4 1 rfl ?_
  refine g_iload_n B dL_lead_5 2 rfl ?_
  refine g_iload_n B dL_lead_6 3 rfl ?_
  refine g_xcatch (name := "") (wr := [(hb, .inr (5, [.ref hp, .ref ht, .ref hg, .ref ha, .ref hq])), (ho, .inl (cL, 1, .inr (.inl fo)))]) B (g_xrunV (q0 := 0) (ci := 5) B (k_lead_x1 l hfl (D := D) (cI := cI) (cL := cL) (cZ := cZ) hb a1 a2 a3 (by first | assumption | omega) (by first | assumption | omega) (by first | assumption | omega)) hK rfl rfl hN hZ hXS hA [] rfl (by decide) gL_lead_X5_lead rfl rfl kd_X5_lead ⟨by decide, by decide⟩ (st := [.int (0 : Int32), .ref ho]) rfl (Nat.le_of_ble_eq_true rfl) dL_lead_7 ⟨by decide, by decide⟩) hXS hA [] [0, 1] rfl rfl (by decide) (by decide) [] ⟨0, 12, 15, 13⟩ [] (htab.trans rfl) (fun z hz => by cases hz) (by decide) (by decide) (List.mem_of_getElem? (i := 1) rfl) 2 rfl (fun x1 => ?_)
  refine g_astore (lv' := [(0, .ref hb), (1, .int a1), (2, .int a2), (3, .int a3), (4, .ref ho), (5, .ref x1)]) B dL_lead_15 (by decide) [1, 2, 3, 4, 5, 0] rfl ?_
  refine g_iconst (v := (1 : Int32)) B dL_lead_17 (by decide) ?_
  refine g_widen (k := 1) (n := 6) (by (try dsimp only); omega) (by (try dsimp only); omega) ?_
  exact g_iret_w B hr rfl hlocks () (rfl) (trivial) [1] (by decide) rfl dL_lead_18

set_option maxHeartbeats 4000000 in
set_option maxRecDepth 100000 in
theorem h_lead_x2 (l : Launch) (hfl : l.stackTraces = false) {D : va_G} {cI cL cZ : ClassId} (hb : Nat) (a1 : Int32) (a2 : Int32) (a3 : Int32) (hp : Nat) (ht : Nat) (hg : Nat) (ha : Nat) (hq : Nat) (ho : Nat) (fo : Nat → Int64) (h_a1 : inR a1 0 11 = true) (hy : ¬ a2 = -1 → inR a2 0 11 = true) (h3 : ¬ a3 = -1) (h_a3 : inR a3 0 11 = false) : HM l yL_lead wsL_lead ({ frames := 8, cells := 1, slots := 6, locals := 143 } : Room) D (gTys cI cL cZ) [.ref hb, .int a1, .int a2, .int a3, .ref ho] [(hb, .inr (5, [.ref hp, .ref ht, .ref hg, .ref ha, .ref hq])), (ho, .inl (cL, 1, .inr (.inl fo)))] (fun (_ : Unit) => True) (fun (_ : Unit) => some (.int (1 : Int32))) (fun (_ : Unit) => [(ho, .inl (cL, 1, .inr (.inl fo)))]) := by
  refine HM.ofG cL_lead 6 (some .int) (by decide +kernel) rfl (Nat.le_of_ble_eq_true rfl) ?_
  intro p e s m below meth c A hA htab hZ hXS B hr hlocks hK hN
  refine g_aload B dL_lead_0 4 rfl ?_
  refine g_iconst (v := (0 : Int32)) B dL_lead_2 (by decide) ?_
  refine g_aload_n B dL_lead_3 0 rfl ?_
  refine g_iload_n B dL_lead_4 1 rfl ?_
  refine g_iload_n B dL_lead_5 2 rfl ?_
  refine g_iload_n B dL_lead_6 3 rfl ?_
  refine g_xcatch (name := "") (wr := [(hb, .inr (5, [.ref hp, .ref ht, .ref hg, .ref ha, .ref hq])), (ho, .inl (cL, 1, .inr (.inl fo)))]) B (g_xrunV (q0 := 0) (ci := 5) B (k_lead_x2 l hfl (D := D) (cI := cI) (cL := cL) (cZ := cZ) hb a1 a2 a3 (by first | assumption | omega) (by first | assumption | omega) (by first | assumption | omega) (by first | assumption | omega)) hK rfl rfl hN hZ hXS hA [] rfl (by decide) gL_lead_X5_lead rfl rfl kd_X5_lead ⟨by decide, by decide⟩ (st := [.int (0 : Int32), .ref ho]) rfl (Nat.le_of_ble_eq_true rfl) dL_lead_7 ⟨by decide, by decide⟩) hXS hA [] [0, 1] rfl rfl (by decide) (by decide) [] ⟨0, 12, 15, 13⟩ [] (htab.trans rfl) (fun z hz => by cases hz) (by decide) (by decide) (List.mem_of_getElem? (i := 1) rfl) 2 rfl (fun x1 => ?_)
  refine g_astore (lv' := [(0, .ref hb), (1, .int a1), (2, .int a2), (3, .int a3), (4, .ref ho), (5, .ref x1)]) B dL_lead_15 (by decide) [1, 2, 3, 4, 5, 0] rfl ?_
  refine g_iconst (v := (1 : Int32)) B dL_lead_17 (by decide) ?_
  refine g_widen (k := 1) (n := 6) (by (try dsimp only); omega) (by (try dsimp only); omega) ?_
  exact g_iret_w B hr rfl hlocks () (rfl) (trivial) [1] (by decide) rfl dL_lead_18

set_option maxHeartbeats 4000000 in
set_option maxRecDepth 100000 in
theorem h_bad_x0 (l : Launch) (hfl : l.stackTraces = false) {D : va_G} {cI cL cZ : ClassId} (hb : Nat) (a1 : Int32) (a2 : Int32) (hp : Nat) (ht : Nat) (hg : Nat) (ha : Nat) (hq : Nat) (ho : Nat) (fo : Nat → Int64) (h_a1 : inR a1 0 11 = false) : HM l yL_bad wsL_bad ({ frames := 8, cells := 1, slots := 6, locals := 142 } : Room) D (gTys cI cL cZ) [.ref hb, .int a1, .int a2, .ref ho] [(hb, .inr (5, [.ref hp, .ref ht, .ref hg, .ref ha, .ref hq])), (ho, .inl (cL, 1, .inr (.inl fo)))] (fun (_ : Unit) => True) (fun (_ : Unit) => some (.int (1 : Int32))) (fun (_ : Unit) => [(ho, .inl (cL, 1, .inr (.inl fo)))]) := by
  refine HM.ofG cL_bad 5 (some .int) (by decide +kernel) rfl (Nat.le_of_ble_eq_true rfl) ?_
  intro p e s m below meth c A hA htab hZ hXS B hr hlocks hK hN
  refine g_aload_n B dL_bad_0 3 rfl ?_
  refine g_iconst (v := (0 : Int32)) B dL_bad_1 (by decide) ?_
  refine g_aload_n B dL_bad_2 0 rfl ?_
  refine g_iload_n B dL_bad_3 1 rfl ?_
  refine g_iload_n B dL_bad_4 2 rfl ?_
  refine g_xcatch (name := "") (wr := [(hb, .inr (5, [.ref hp, .ref ht, .ref hg, .ref ha, .ref hq])), (ho, .inl (cL, 1, .inr (.inl fo)))]) B (g_xrunV (q0 := 0) (ci := 5) B (k_bad_x0 l hfl (D := D) (cI := cI) (cL := cL) (cZ := cZ) hb a1 a2 (by first | assumption | omega)) hK rfl rfl hN hZ hXS hA [] rfl (by decide) gL_bad_X5_bad rfl rfl kd_X5_bad ⟨by decide, by decide⟩ (st := [.int (0 : Int32), .ref ho]) rfl (Nat.le_of_ble_eq_true rfl) dL_bad_5 ⟨by decide, by decide⟩) hXS hA [] [0, 1] rfl rfl (by decide) (by decide) [] ⟨0, 10, 13, 13⟩ [] (htab.trans rfl) (fun z hz => by cases hz) (by decide) (by decide) (List.mem_of_getElem? (i := 1) rfl) 2 rfl (fun x1 => ?_)
  refine g_astore (lv' := [(0, .ref hb), (1, .int a1), (2, .int a2), (3, .ref ho), (4, .ref x1)]) B dL_bad_13 (by decide) [1, 2, 3, 4, 0] rfl ?_
  refine g_iconst (v := (1 : Int32)) B dL_bad_15 (by decide) ?_
  refine g_widen (k := 1) (n := 6) (by (try dsimp only); omega) (by (try dsimp only); omega) ?_
  exact g_iret_w B hr rfl hlocks () (rfl) (trivial) [1] (by decide) rfl dL_bad_16

set_option maxHeartbeats 4000000 in
set_option maxRecDepth 100000 in
theorem h_run_x0 (l : Launch) (hfl : l.stackTraces = false) {D : va_G} {cI cL cZ : ClassId} (hb : Nat) (a1 : Int32) (hp : Nat) (ht : Nat) (hg : Nat) (ha : Nat) (hq : Nat) (ho : Nat) (fo : Nat → Int64) (h_a1 : inR a1 0 9999 = false) : HM l yL_run wsL_run ({ frames := 8, cells := 1, slots := 6, locals := 141 } : Room) D (gTys cI cL cZ) [.ref hb, .int a1, .ref ho] [(hb, .inr (5, [.ref hp, .ref ht, .ref hg, .ref ha, .ref hq])), (ho, .inl (cL, 1, .inr (.inl fo)))] (fun (_ : Unit) => True) (fun (_ : Unit) => some (.int (1 : Int32))) (fun (_ : Unit) => [(ho, .inl (cL, 1, .inr (.inl fo)))]) := by
  refine HM.ofG cL_run 4 (some .int) (by decide +kernel) rfl (Nat.le_of_ble_eq_true rfl) ?_
  intro p e s m below meth c A hA htab hZ hXS B hr hlocks hK hN
  refine g_aload_n B dL_run_0 2 rfl ?_
  refine g_iconst (v := (0 : Int32)) B dL_run_1 (by decide) ?_
  refine g_aload_n B dL_run_2 0 rfl ?_
  refine g_iload_n B dL_run_3 1 rfl ?_
  refine g_xcatch (name := "") (wr := [(hb, .inr (5, [.ref hp, .ref ht, .ref hg, .ref ha, .ref hq])), (ho, .inl (cL, 1, .inr (.inl fo)))]) B (g_xrunV (q0 := 0) (ci := 5) B (k_run_x0 l hfl (D := D) (cI := cI) (cL := cL) (cZ := cZ) hb a1 (by first | assumption | omega)) hK rfl rfl hN hZ hXS hA [] rfl (by decide) gL_run_X5_run rfl rfl kd_X5_run ⟨by decide, by decide⟩ (st := [.int (0 : Int32), .ref ho]) rfl (Nat.le_of_ble_eq_true rfl) dL_run_4 ⟨by decide, by decide⟩) hXS hA [] [0, 1] rfl rfl (by decide) (by decide) [] ⟨0, 9, 12, 15⟩ [] (htab.trans rfl) (fun z hz => by cases hz) (by decide) (by decide) (List.mem_of_getElem? (i := 1) rfl) 0 rfl (fun x1 => ?_)
  refine g_astore_n (lv' := [(0, .ref hb), (1, .int a1), (2, .ref ho), (3, .ref x1)]) B dL_run_12 rfl (by decide) [1, 2, 3, 0] rfl ?_
  refine g_iconst (v := (1 : Int32)) B dL_run_13 (by decide) ?_
  refine g_widen (k := 1) (n := 6) (by (try dsimp only); omega) (by (try dsimp only); omega) ?_
  exact g_iret_w B hr rfl hlocks () (rfl) (trivial) [1] (by decide) rfl dL_run_14

set_option maxHeartbeats 4000000 in
set_option maxRecDepth 100000 in
theorem h_edge_x0 (l : Launch) (hfl : l.stackTraces = false) {D : va_G} {cI cL cZ : ClassId} (hb : Nat) (a1 : Int32) (a2 : Int32) (hp : Nat) (ht : Nat) (hg : Nat) (ha : Nat) (hq : Nat) (ho : Nat) (fo : Nat → Int64) (h_a1 : inR a1 0 9999 = false) : HM l yL_edge wsL_edge ({ frames := 8, cells := 1, slots := 6, locals := 142 } : Room) D (gTys cI cL cZ) [.ref hb, .int a1, .int a2, .ref ho] [(hb, .inr (5, [.ref hp, .ref ht, .ref hg, .ref ha, .ref hq])), (ho, .inl (cL, 1, .inr (.inl fo)))] (fun (_ : Unit) => True) (fun (_ : Unit) => some (.int (1 : Int32))) (fun (_ : Unit) => [(ho, .inl (cL, 1, .inr (.inl fo)))]) := by
  refine HM.ofG cL_edge 5 (some .int) (by decide +kernel) rfl (Nat.le_of_ble_eq_true rfl) ?_
  intro p e s m below meth c A hA htab hZ hXS B hr hlocks hK hN
  refine g_aload_n B dL_edge_0 3 rfl ?_
  refine g_iconst (v := (0 : Int32)) B dL_edge_1 (by decide) ?_
  refine g_aload_n B dL_edge_2 0 rfl ?_
  refine g_iload_n B dL_edge_3 1 rfl ?_
  refine g_iload_n B dL_edge_4 2 rfl ?_
  refine g_xcatch (name := "") (wr := [(hb, .inr (5, [.ref hp, .ref ht, .ref hg, .ref ha, .ref hq])), (ho, .inl (cL, 1, .inr (.inl fo)))]) B (g_xrunV (q0 := 0) (ci := 5) B (k_edge_x0 l hfl (D := D) (cI := cI) (cL := cL) (cZ := cZ) hb a1 a2 (by first | assumption | omega)) hK rfl rfl hN hZ hXS hA [] rfl (by decide) gL_edge_X5_edge rfl rfl kd_X5_edge ⟨by decide, by decide⟩ (st := [.int (0 : Int32), .ref ho]) rfl (Nat.le_of_ble_eq_true rfl) dL_edge_5 ⟨by decide, by decide⟩) hXS hA [] [0, 1] rfl rfl (by decide) (by decide) [] ⟨0, 10, 13, 15⟩ [⟨0, 10, 17, 13⟩] (htab.trans rfl) (fun z hz => by cases hz) (by decide) (by decide) (List.mem_of_getElem? (i := 1) rfl) 0 rfl (fun x1 => ?_)
  refine g_astore (lv' := [(0, .ref hb), (1, .int a1), (2, .int a2), (3, .ref ho), (4, .ref x1)]) B dL_edge_13 (by decide) [1, 2, 3, 4, 0] rfl ?_
  refine g_iconst (v := (1 : Int32)) B dL_edge_15 (by decide) ?_
  refine g_widen (k := 1) (n := 6) (by (try dsimp only); omega) (by (try dsimp only); omega) ?_
  exact g_iret_w B hr rfl hlocks () (rfl) (trivial) [1] (by decide) rfl dL_edge_16

set_option maxHeartbeats 4000000 in
set_option maxRecDepth 100000 in
theorem h_covers_x0 (l : Launch) (hfl : l.stackTraces = false) {D : va_G} {cI cL cZ : ClassId} (hb : Nat) (a1 : Int32) (hp : Nat) (ht : Nat) (hg : Nat) (ha : Nat) (hq : Nat) (ho : Nat) (fo : Nat → Int64) (h_a1 : inR a1 0 9999 = false) : HM l yL_covers wsL_covers ({ frames := 8, cells := 1, slots := 6, locals := 141 } : Room) D (gTys cI cL cZ) [.ref hb, .int a1, .ref ho] [(hb, .inr (5, [.ref hp, .ref ht, .ref hg, .ref ha, .ref hq])), (ho, .inl (cL, 1, .inr (.inl fo)))] (fun (_ : Unit) => True) (fun (_ : Unit) => some (.int (1 : Int32))) (fun (_ : Unit) => [(ho, .inl (cL, 1, .inr (.inl fo)))]) := by
  refine HM.ofG cL_covers 4 (some .int) (by decide +kernel) rfl (Nat.le_of_ble_eq_true rfl) ?_
  intro p e s m below meth c A hA htab hZ hXS B hr hlocks hK hN
  refine g_aload_n B dL_covers_0 2 rfl ?_
  refine g_iconst (v := (0 : Int32)) B dL_covers_1 (by decide) ?_
  refine g_aload_n B dL_covers_2 0 rfl ?_
  refine g_iload_n B dL_covers_3 1 rfl ?_
  refine g_xcatch (name := "") (wr := [(hb, .inr (5, [.ref hp, .ref ht, .ref hg, .ref ha, .ref hq])), (ho, .inl (cL, 1, .inr (.inl fo)))]) B (g_xrunV (q0 := 0) (ci := 5) B (k_covers_x0 l hfl (D := D) (cI := cI) (cL := cL) (cZ := cZ) hb a1 (by first | assumption | omega)) hK rfl rfl hN hZ hXS hA [] rfl (by decide) gL_covers_X5_covers rfl rfl kd_X5_covers ⟨by decide, by decide⟩ (st := [.int (0 : Int32), .ref ho]) rfl (Nat.le_of_ble_eq_true rfl) dL_covers_4 ⟨by decide, by decide⟩) hXS hA [] [0, 1] rfl rfl (by decide) (by decide) [] ⟨0, 9, 12, 15⟩ [] (htab.trans rfl) (fun z hz => by cases hz) (by decide) (by decide) (List.mem_of_getElem? (i := 1) rfl) 0 rfl (fun x1 => ?_)
  refine g_astore_n (lv' := [(0, .ref hb), (1, .int a1), (2, .ref ho), (3, .ref x1)]) B dL_covers_12 rfl (by decide) [1, 2, 3, 0] rfl ?_
  refine g_iconst (v := (1 : Int32)) B dL_covers_13 (by decide) ?_
  refine g_widen (k := 1) (n := 6) (by (try dsimp only); omega) (by (try dsimp only); omega) ?_
  exact g_iret_w B hr rfl hlocks () (rfl) (trivial) [1] (by decide) rfl dL_covers_14

set_option maxHeartbeats 4000000 in
set_option maxRecDepth 100000 in
theorem h_taste_x0 (l : Launch) (hfl : l.stackTraces = false) {D : va_G} {cI cL cZ : ClassId} (hb : Nat) (a1 : Int32) (hp : Nat) (ht : Nat) (hg : Nat) (ha : Nat) (hq : Nat) (ho : Nat) (fo : Nat → Int64) (h_a1 : inR a1 0 9999 = false) : HM l yL_taste wsL_taste ({ frames := 8, cells := 1, slots := 6, locals := 141 } : Room) D (gTys cI cL cZ) [.ref hb, .int a1, .ref ho] [(hb, .inr (5, [.ref hp, .ref ht, .ref hg, .ref ha, .ref hq])), (ho, .inl (cL, 1, .inr (.inl fo)))] (fun (_ : Unit) => True) (fun (_ : Unit) => some (.int (1 : Int32))) (fun (_ : Unit) => [(ho, .inl (cL, 1, .inr (.inl fo)))]) := by
  refine HM.ofG cL_taste 4 (some .int) (by decide +kernel) rfl (Nat.le_of_ble_eq_true rfl) ?_
  intro p e s m below meth c A hA htab hZ hXS B hr hlocks hK hN
  refine g_aload_n B dL_taste_0 2 rfl ?_
  refine g_iconst (v := (0 : Int32)) B dL_taste_1 (by decide) ?_
  refine g_aload_n B dL_taste_2 0 rfl ?_
  refine g_iload_n B dL_taste_3 1 rfl ?_
  refine g_xcatch (name := "") (wr := [(hb, .inr (5, [.ref hp, .ref ht, .ref hg, .ref ha, .ref hq])), (ho, .inl (cL, 1, .inr (.inl fo)))]) B (g_xrunV (q0 := 0) (ci := 5) B (k_taste_x0 l hfl (D := D) (cI := cI) (cL := cL) (cZ := cZ) hb a1 (by first | assumption | omega)) hK rfl rfl hN hZ hXS hA [] rfl (by decide) gL_taste_X5_taste rfl rfl kd_X5_taste ⟨by decide, by decide⟩ (st := [.int (0 : Int32), .ref ho]) rfl (Nat.le_of_ble_eq_true rfl) dL_taste_4 ⟨by decide, by decide⟩) hXS hA [] [0, 1] rfl rfl (by decide) (by decide) [] ⟨0, 9, 12, 15⟩ [⟨0, 9, 15, 46⟩] (htab.trans rfl) (fun z hz => by cases hz) (by decide) (by decide) (List.mem_of_getElem? (i := 1) rfl) 0 rfl (fun x1 => ?_)
  refine g_astore_n (lv' := [(0, .ref hb), (1, .int a1), (2, .ref ho), (3, .ref x1)]) B dL_taste_12 rfl (by decide) [1, 2, 3, 0] rfl ?_
  refine g_iconst (v := (1 : Int32)) B dL_taste_13 (by decide) ?_
  refine g_widen (k := 1) (n := 6) (by (try dsimp only); omega) (by (try dsimp only); omega) ?_
  exact g_iret_w B hr rfl hlocks () (rfl) (trivial) [1] (by decide) rfl dL_taste_14

set_option maxHeartbeats 4000000 in
set_option maxRecDepth 100000 in
theorem h_shrink_x0 (l : Launch) (hfl : l.stackTraces = false) {D : va_G} {cI cL cZ : ClassId} (hb : Nat) (a1 : Int32) (hp : Nat) (ht : Nat) (hg : Nat) (ha : Nat) (hq : Nat) (ho : Nat) (fo : Nat → Int64) (h_a1 : inR a1 0 9999 = false) : HM l yL_shrink wsL_shrink ({ frames := 8, cells := 1, slots := 6, locals := 142 } : Room) D (gTys cI cL cZ) [.ref hb, .int a1, .ref ho] [(hb, .inr (5, [.ref hp, .ref ht, .ref hg, .ref ha, .ref hq])), (ho, .inl (cL, 1, .inr (.inl fo)))] (fun (_ : Unit) => True) (fun (_ : Unit) => some (.int (1 : Int32))) (fun (_ : Unit) => [(ho, .inl (cL, 1, .inr (.inl fo)))]) := by
  refine HM.ofG cL_shrink 4 (some .int) (by decide +kernel) rfl (Nat.le_of_ble_eq_true rfl) ?_
  intro p e s m below meth c A hA htab hZ hXS B hr hlocks hK hN
  refine g_aload_n B dL_shrink_0 2 rfl ?_
  refine g_iconst (v := (0 : Int32)) B dL_shrink_1 (by decide) ?_
  refine g_aload_n B dL_shrink_2 0 rfl ?_
  refine g_iload_n B dL_shrink_3 1 rfl ?_
  refine g_xcatch (name := "") (wr := [(hb, .inr (5, [.ref hp, .ref ht, .ref hg, .ref ha, .ref hq])), (ho, .inl (cL, 1, .inr (.inl fo)))]) B (g_xrunV (q0 := 0) (ci := 5) B (k_shrink_x0 l hfl (D := D) (cI := cI) (cL := cL) (cZ := cZ) hb a1 (by first | assumption | omega)) hK rfl rfl hN hZ hXS hA [] rfl (by decide) gL_shrink_X5_shrink rfl rfl kd_X5_shrink ⟨by decide, by decide⟩ (st := [.int (0 : Int32), .ref ho]) rfl (Nat.le_of_ble_eq_true rfl) dL_shrink_4 ⟨by decide, by decide⟩) hXS hA [] [0, 1] rfl rfl (by decide) (by decide) [] ⟨0, 9, 12, 15⟩ [] (htab.trans rfl) (fun z hz => by cases hz) (by decide) (by decide) (List.mem_of_getElem? (i := 1) rfl) 0 rfl (fun x1 => ?_)
  refine g_astore_n (lv' := [(0, .ref hb), (1, .int a1), (2, .ref ho), (3, .ref x1)]) B dL_shrink_12 rfl (by decide) [1, 2, 3, 0] rfl ?_
  refine g_iconst (v := (1 : Int32)) B dL_shrink_13 (by decide) ?_
  refine g_widen (k := 1) (n := 6) (by (try dsimp only); omega) (by (try dsimp only); omega) ?_
  exact g_iret_w B hr rfl hlocks () (rfl) (trivial) [1] (by decide) rfl dL_shrink_14

set_option maxHeartbeats 4000000 in
set_option maxRecDepth 100000 in
theorem h_wouldDrop_x0 (l : Launch) (hfl : l.stackTraces = false) {D : va_G} {cI cL cZ : ClassId} (hb : Nat) (a1 : Int32) (hp : Nat) (ht : Nat) (hg : Nat) (ha : Nat) (hq : Nat) (ho : Nat) (fo : Nat → Int64) (h_a1 : inR a1 0 9999 = false) : HM l yL_wouldDrop wsL_wouldDrop ({ frames := 8, cells := 1, slots := 6, locals := 143 } : Room) D (gTys cI cL cZ) [.ref hb, .int a1, .ref ho] [(hb, .inr (5, [.ref hp, .ref ht, .ref hg, .ref ha, .ref hq])), (ho, .inl (cL, 1, .inr (.inl fo)))] (fun (_ : Unit) => True) (fun (_ : Unit) => some (.int (1 : Int32))) (fun (_ : Unit) => [(ho, .inl (cL, 1, .inr (.inl fo)))]) := by
  refine HM.ofG cL_wouldDrop 4 (some .int) (by decide +kernel) rfl (Nat.le_of_ble_eq_true rfl) ?_
  intro p e s m below meth c A hA htab hZ hXS B hr hlocks hK hN
  refine g_aload_n B dL_wouldDrop_0 2 rfl ?_
  refine g_iconst (v := (0 : Int32)) B dL_wouldDrop_1 (by decide) ?_
  refine g_aload_n B dL_wouldDrop_2 0 rfl ?_
  refine g_iload_n B dL_wouldDrop_3 1 rfl ?_
  refine g_xcatch (name := "") (wr := [(hb, .inr (5, [.ref hp, .ref ht, .ref hg, .ref ha, .ref hq])), (ho, .inl (cL, 1, .inr (.inl fo)))]) B (g_xrunV (q0 := 0) (ci := 5) B (k_wouldDrop_x0 l hfl (D := D) (cI := cI) (cL := cL) (cZ := cZ) hb a1 (by first | assumption | omega)) hK rfl rfl hN hZ hXS hA [] rfl (by decide) gL_wouldDrop_X5_wouldDrop rfl rfl kd_X5_wouldDrop ⟨by decide, by decide⟩ (st := [.int (0 : Int32), .ref ho]) rfl (Nat.le_of_ble_eq_true rfl) dL_wouldDrop_4 ⟨by decide, by decide⟩) hXS hA [] [0, 1] rfl rfl (by decide) (by decide) [] ⟨0, 9, 12, 15⟩ [] (htab.trans rfl) (fun z hz => by cases hz) (by decide) (by decide) (List.mem_of_getElem? (i := 1) rfl) 0 rfl (fun x1 => ?_)
  refine g_astore_n (lv' := [(0, .ref hb), (1, .int a1), (2, .ref ho), (3, .ref x1)]) B dL_wouldDrop_12 rfl (by decide) [1, 2, 3, 0] rfl ?_
  refine g_iconst (v := (1 : Int32)) B dL_wouldDrop_13 (by decide) ?_
  refine g_widen (k := 1) (n := 6) (by (try dsimp only); omega) (by (try dsimp only); omega) ?_
  exact g_iret_w B hr rfl hlocks () (rfl) (trivial) [1] (by decide) rfl dL_wouldDrop_14

set_option maxHeartbeats 4000000 in
set_option maxRecDepth 100000 in
theorem h_edge_x1 (l : Launch) (hfl : l.stackTraces = false) {D : va_G} {cI cL cZ : ClassId} (hb : Nat) (hp : Nat) (ht : Nat) (hg : Nat) (ha : Nat) (hq : Nat) (p0 : Nat) (p1 : Nat) (p2 : Nat) (p3 : Nat) (p4 : Nat) (t0 : Nat) (fp : Nat → Int32) (ts : Int32) (tr : Int32) (tf : Int64) (t : Nat) (a2 : Int32) (ho : Nat) (fo : Nat → Int64) (ht1 : t < 10000) (h2 : inR a2 0 0 = false) : HM l yL_edge wsL_edge ({ frames := 7, cells := 1, slots := 6, locals := 122 } : Room) D (gTys cI cL cZ) [.ref hb, .int (nI t), .int a2, .ref ho] [(hb, .inr (5, [.ref hp, .ref ht, .ref hg, .ref ha, .ref hq])), (hp, .inr (2, [.ref p0, .ref p1, .ref p2, .ref p3, .ref p4])), (p0, .inl (cI, 12, .inl (fun _ => (0 : Int32)))), (p1, .inl (cI, 12, .inl (fun _ => (0 : Int32)))), (p2, .inl (cI, 12, .inl (fun _ => (0 : Int32)))), (p3, .inl (cI, 24, .inl (fun _ => (-1 : Int32)))), (p4, .inl (cZ, 12, .inl (fun _ => (0 : Int32)))), (ht, .inr (4, [.ref t0, .int ts, .int tr, .long tf])), (t0, .inl (cI, 30, .inl fp)), (ho, .inl (cL, 1, .inr (.inl fo)))] (fun (_ : Unit) => True) (fun (_ : Unit) => some (.int (2 : Int32))) (fun (_ : Unit) => [(ho, .inl (cL, 1, .inr (.inl fo)))]) := by
  refine HM.ofG cL_edge 5 (some .int) (by decide +kernel) rfl (Nat.le_of_ble_eq_true rfl) ?_
  intro p e s m below meth c A hA htab hZ hXS B hr hlocks hK hN
  refine g_aload_n B dL_edge_0 3 rfl ?_
  refine g_iconst (v := (0 : Int32)) B dL_edge_1 (by decide) ?_
  refine g_aload_n B dL_edge_2 0 rfl ?_
  refine g_iload_n B dL_edge_3 1 rfl ?_
  refine g_iload_n B dL_edge_4 2 rfl ?_
  refine g_xcatch (name := "") (wr := [(ho, .inl (cL, 1, .inr (.inl fo)))]) B (g_xrunV (q0 := 0) (ci := 5) B (k_edge_x1 l hfl (D := D) (cI := cI) (cL := cL) (cZ := cZ) hb hp ht hg ha hq p0 p1 p2 p3 p4 t0 fp ts tr tf t a2 (by first | assumption | omega) (by first | assumption | omega)) hK rfl rfl hN hZ hXS hA [0, 1, 2, 3, 4, 5, 6, 7, 8] rfl (by decide) gL_edge_X5_edge rfl rfl kd_X5_edge ⟨by decide, by decide⟩ (st := [.int (0 : Int32), .ref ho]) rfl (Nat.le_of_ble_eq_true rfl) dL_edge_5 ⟨by decide, by decide⟩) hXS hA [0, 1, 2, 3, 4, 5, 6, 7, 8] [9] rfl rfl (by decide) (by decide) [⟨0, 10, 13, 15⟩] ⟨0, 10, 17, 13⟩ [] (htab.trans rfl) (fun z hz => by rw [List.mem_singleton.mp hz]; exact Or.inr ⟨by decide, "java/lang/IllegalArgumentException", List.mem_of_getElem? (i := 1) rfl, by decide +kernel⟩) (by decide) (by decide) (List.mem_of_getElem? (i := 2) rfl) 2 rfl (fun x1 => ?_)
  refine g_astore (lv' := [(0, .ref hb), (1, .int (nI t)), (2, .int a2), (3, .ref ho), (4, .ref x1)]) B dL_edge_17 (by decide) [1, 2, 3, 4, 0] rfl ?_
  refine g_iconst (v := (2 : Int32)) B dL_edge_19 (by decide) ?_
  refine g_widen (k := 1) (n := 6) (by (try dsimp only); omega) (by (try dsimp only); omega) ?_
  exact g_iret_w B hr rfl hlocks () (rfl) (trivial) [0] (by decide) rfl dL_edge_20

set_option maxHeartbeats 4000000 in
set_option maxRecDepth 100000 in
theorem h_weights_x0 (l : Launch) (hfl : l.stackTraces = false) {D : va_G} {cI cL cZ : ClassId} (hb : Nat) (a1 : Int32) (a2 : Int32) (a3 : Int32) (a4 : Int32) (hp : Nat) (ht : Nat) (hg : Nat) (ha : Nat) (hq : Nat) (ho : Nat) (fo : Nat → Int64) (h_a1 : inR a1 0 3 = false) : HM l yL_weights wsL_weights ({ frames := 8, cells := 1, slots := 6, locals := 145 } : Room) D (gTys cI cL cZ) [.ref hb, .int a1, .int a2, .int a3, .int a4, .ref ho] [(hb, .inr (5, [.ref hp, .ref ht, .ref hg, .ref ha, .ref hq])), (ho, .inl (cL, 1, .inr (.inl fo)))] (fun (_ : Unit) => True) (fun (_ : Unit) => some (.int (1 : Int32))) (fun (_ : Unit) => [(ho, .inl (cL, 1, .inr (.inl fo)))]) := by
  refine HM.ofG cL_weights 7 (some .int) (by decide +kernel) rfl (Nat.le_of_ble_eq_true rfl) ?_
  intro p e s m below meth c A hA htab hZ hXS B hr hlocks hK hN
  refine g_aload B dL_weights_0 5 rfl ?_
  refine g_iconst (v := (0 : Int32)) B dL_weights_2 (by decide) ?_
  refine g_aload_n B dL_weights_3 0 rfl ?_
  refine g_iload_n B dL_weights_4 1 rfl ?_
  refine g_iload_n B dL_weights_5 2 rfl ?_
  refine g_iload_n B dL_weights_6 3 rfl ?_
  refine g_iload B dL_weights_7 4 rfl ?_
  refine g_xcatch (name := "") (wr := [(hb, .inr (5, [.ref hp, .ref ht, .ref hg, .ref ha, .ref hq])), (ho, .inl (cL, 1, .inr (.inl fo)))]) B (g_xrunV (q0 := 0) (ci := 5) B (k_weights_x0 l hfl (D := D) (cI := cI) (cL := cL) (cZ := cZ) hb a1 a2 a3 a4 (by first | assumption | omega)) hK rfl rfl hN hZ hXS hA [] rfl (by decide) gL_weights_X5_weights rfl rfl kd_X5_weights ⟨by decide, by decide⟩ (st := [.int (0 : Int32), .ref ho]) rfl (Nat.le_of_ble_eq_true rfl) dL_weights_9 ⟨by decide, by decide⟩) hXS hA [] [0, 1] rfl rfl (by decide) (by decide) [] ⟨0, 14, 17, 13⟩ [⟨0, 14, 21, 15⟩] (htab.trans rfl) (fun z hz => by cases hz) (by decide) (by decide) (List.mem_of_getElem? (i := 1) rfl) 2 rfl (fun x1 => ?_)
  refine g_astore (lv' := [(0, .ref hb), (1, .int a1), (2, .int a2), (3, .int a3), (4, .int a4), (5, .ref ho), (6, .ref x1)]) B dL_weights_17 (by decide) [1, 2, 3, 4, 5, 6, 0] rfl ?_
  refine g_iconst (v := (1 : Int32)) B dL_weights_19 (by decide) ?_
  refine g_widen (k := 1) (n := 6) (by (try dsimp only); omega) (by (try dsimp only); omega) ?_
  exact g_iret_w B hr rfl hlocks () (rfl) (trivial) [1] (by decide) rfl dL_weights_20

set_option maxHeartbeats 4000000 in
set_option maxRecDepth 100000 in
theorem h_weights_x1 (l : Launch) (hfl : l.stackTraces = false) {D : va_G} {cI cL cZ : ClassId} (hb : Nat) (a1 : Int32) (a2 : Int32) (a3 : Int32) (a4 : Int32) (hp : Nat) (ht : Nat) (hg : Nat) (ha : Nat) (hq : Nat) (ho : Nat) (fo : Nat → Int64) (h_a1 : inR a1 0 3 = true) (h_a2 : inR a2 0 9 = false) : HM l yL_weights wsL_weights ({ frames := 8, cells := 1, slots := 6, locals := 145 } : Room) D (gTys cI cL cZ) [.ref hb, .int a1, .int a2, .int a3, .int a4, .ref ho] [(hb, .inr (5, [.ref hp, .ref ht, .ref hg, .ref ha, .ref hq])), (ho, .inl (cL, 1, .inr (.inl fo)))] (fun (_ : Unit) => True) (fun (_ : Unit) => some (.int (2 : Int32))) (fun (_ : Unit) => [(ho, .inl (cL, 1, .inr (.inl fo)))]) := by
  refine HM.ofG cL_weights 7 (some .int) (by decide +kernel) rfl (Nat.le_of_ble_eq_true rfl) ?_
  intro p e s m below meth c A hA htab hZ hXS B hr hlocks hK hN
  refine g_aload B dL_weights_0 5 rfl ?_
  refine g_iconst (v := (0 : Int32)) B dL_weights_2 (by decide) ?_
  refine g_aload_n B dL_weights_3 0 rfl ?_
  refine g_iload_n B dL_weights_4 1 rfl ?_
  refine g_iload_n B dL_weights_5 2 rfl ?_
  refine g_iload_n B dL_weights_6 3 rfl ?_
  refine g_iload B dL_weights_7 4 rfl ?_
  refine g_xcatch (name := "") (wr := [(hb, .inr (5, [.ref hp, .ref ht, .ref hg, .ref ha, .ref hq])), (ho, .inl (cL, 1, .inr (.inl fo)))]) B (g_xrunV (q0 := 0) (ci := 5) B (k_weights_x1 l hfl (D := D) (cI := cI) (cL := cL) (cZ := cZ) hb a1 a2 a3 a4 (by first | assumption | omega) (by first | assumption | omega)) hK rfl rfl hN hZ hXS hA [] rfl (by decide) gL_weights_X5_weights rfl rfl kd_X5_weights ⟨by decide, by decide⟩ (st := [.int (0 : Int32), .ref ho]) rfl (Nat.le_of_ble_eq_true rfl) dL_weights_9 ⟨by decide, by decide⟩) hXS hA [] [0, 1] rfl rfl (by decide) (by decide) [⟨0, 14, 17, 13⟩] ⟨0, 14, 21, 15⟩ [] (htab.trans rfl) (fun z hz => by rw [List.mem_singleton.mp hz]; exact Or.inr ⟨by decide, "java/lang/IndexOutOfBoundsException", List.mem_of_getElem? (i := 1) rfl, by decide +kernel⟩) (by decide) (by decide) (List.mem_of_getElem? (i := 2) rfl) 0 rfl (fun x1 => ?_)
  refine g_astore (lv' := [(0, .ref hb), (1, .int a1), (2, .int a2), (3, .int a3), (4, .int a4), (5, .ref ho), (6, .ref x1)]) B dL_weights_21 (by decide) [1, 2, 3, 4, 5, 6, 0] rfl ?_
  refine g_iconst (v := (2 : Int32)) B dL_weights_23 (by decide) ?_
  refine g_widen (k := 1) (n := 6) (by (try dsimp only); omega) (by (try dsimp only); omega) ?_
  exact g_iret_w B hr rfl hlocks () (rfl) (trivial) [1] (by decide) rfl dL_weights_24

set_option maxHeartbeats 4000000 in
set_option maxRecDepth 100000 in
theorem h_weights_x2 (l : Launch) (hfl : l.stackTraces = false) {D : va_G} {cI cL cZ : ClassId} (hb : Nat) (a1 : Int32) (a2 : Int32) (a3 : Int32) (a4 : Int32) (hp : Nat) (ht : Nat) (hg : Nat) (ha : Nat) (hq : Nat) (ho : Nat) (fo : Nat → Int64) (h_a1 : inR a1 0 3 = true) (h_a2 : inR a2 0 9 = true) (h_a3 : inR a3 0 9 = false) : HM l yL_weights wsL_weights ({ frames := 8, cells := 1, slots := 6, locals := 145 } : Room) D (gTys cI cL cZ) [.ref hb, .int a1, .int a2, .int a3, .int a4, .ref ho] [(hb, .inr (5, [.ref hp, .ref ht, .ref hg, .ref ha, .ref hq])), (ho, .inl (cL, 1, .inr (.inl fo)))] (fun (_ : Unit) => True) (fun (_ : Unit) => some (.int (2 : Int32))) (fun (_ : Unit) => [(ho, .inl (cL, 1, .inr (.inl fo)))]) := by
  refine HM.ofG cL_weights 7 (some .int) (by decide +kernel) rfl (Nat.le_of_ble_eq_true rfl) ?_
  intro p e s m below meth c A hA htab hZ hXS B hr hlocks hK hN
  refine g_aload B dL_weights_0 5 rfl ?_
  refine g_iconst (v := (0 : Int32)) B dL_weights_2 (by decide) ?_
  refine g_aload_n B dL_weights_3 0 rfl ?_
  refine g_iload_n B dL_weights_4 1 rfl ?_
  refine g_iload_n B dL_weights_5 2 rfl ?_
  refine g_iload_n B dL_weights_6 3 rfl ?_
  refine g_iload B dL_weights_7 4 rfl ?_
  refine g_xcatch (name := "") (wr := [(hb, .inr (5, [.ref hp, .ref ht, .ref hg, .ref ha, .ref hq])), (ho, .inl (cL, 1, .inr (.inl fo)))]) B (g_xrunV (q0 := 0) (ci := 5) B (k_weights_x2 l hfl (D := D) (cI := cI) (cL := cL) (cZ := cZ) hb a1 a2 a3 a4 (by first | assumption | omega) (by first | assumption | omega) (by first | assumption | omega)) hK rfl rfl hN hZ hXS hA [] rfl (by decide) gL_weights_X5_weights rfl rfl kd_X5_weights ⟨by decide, by decide⟩ (st := [.int (0 : Int32), .ref ho]) rfl (Nat.le_of_ble_eq_true rfl) dL_weights_9 ⟨by decide, by decide⟩) hXS hA [] [0, 1] rfl rfl (by decide) (by decide) [⟨0, 14, 17, 13⟩] ⟨0, 14, 21, 15⟩ [] (htab.trans rfl) (fun z hz => by rw [List.mem_singleton.mp hz]; exact Or.inr ⟨by decide, "java/lang/IndexOutOfBoundsException", List.mem_of_getElem? (i := 1) rfl, by decide +kernel⟩) (by decide) (by decide) (List.mem_of_getElem? (i := 2) rfl) 0 rfl (fun x1 => ?_)
  refine g_astore (lv' := [(0, .ref hb), (1, .int a1), (2, .int a2), (3, .int a3), (4, .int a4), (5, .ref ho), (6, .ref x1)]) B dL_weights_21 (by decide) [1, 2, 3, 4, 5, 6, 0] rfl ?_
  refine g_iconst (v := (2 : Int32)) B dL_weights_23 (by decide) ?_
  refine g_widen (k := 1) (n := 6) (by (try dsimp only); omega) (by (try dsimp only); omega) ?_
  exact g_iret_w B hr rfl hlocks () (rfl) (trivial) [1] (by decide) rfl dL_weights_24

set_option maxHeartbeats 4000000 in
set_option maxRecDepth 100000 in
theorem h_weights_x3 (l : Launch) (hfl : l.stackTraces = false) {D : va_G} {cI cL cZ : ClassId} (hb : Nat) (a1 : Int32) (a2 : Int32) (a3 : Int32) (a4 : Int32) (hp : Nat) (ht : Nat) (hg : Nat) (ha : Nat) (hq : Nat) (ho : Nat) (fo : Nat → Int64) (h_a1 : inR a1 0 3 = true) (h_a2 : inR a2 0 9 = true) (h_a3 : inR a3 0 9 = true) (h_a4 : inR a4 0 9 = false) : HM l yL_weights wsL_weights ({ frames := 8, cells := 1, slots := 6, locals := 145 } : Room) D (gTys cI cL cZ) [.ref hb, .int a1, .int a2, .int a3, .int a4, .ref ho] [(hb, .inr (5, [.ref hp, .ref ht, .ref hg, .ref ha, .ref hq])), (ho, .inl (cL, 1, .inr (.inl fo)))] (fun (_ : Unit) => True) (fun (_ : Unit) => some (.int (2 : Int32))) (fun (_ : Unit) => [(ho, .inl (cL, 1, .inr (.inl fo)))]) := by
  refine HM.ofG cL_weights 7 (some .int) (by decide +kernel) rfl (Nat.le_of_ble_eq_true rfl) ?_
  intro p e s m below meth c A hA htab hZ hXS B hr hlocks hK hN
  refine g_aload B dL_weights_0 5 rfl ?_
  refine g_iconst (v := (0 : Int32)) B dL_weights_2 (by decide) ?_
  refine g_aload_n B dL_weights_3 0 rfl ?_
  refine g_iload_n B dL_weights_4 1 rfl ?_
  refine g_iload_n B dL_weights_5 2 rfl ?_
  refine g_iload_n B dL_weights_6 3 rfl ?_
  refine g_iload B dL_weights_7 4 rfl ?_
  refine g_xcatch (name := "") (wr := [(hb, .inr (5, [.ref hp, .ref ht, .ref hg, .ref ha, .ref hq])), (ho, .inl (cL, 1, .inr (.inl fo)))]) B (g_xrunV (q0 := 0) (ci := 5) B (k_weights_x3 l hfl (D := D) (cI := cI) (cL := cL) (cZ := cZ) hb a1 a2 a3 a4 (by first | assumption | omega) (by first | assumption | omega) (by first | assumption | omega) (by first | assumption | omega)) hK rfl rfl hN hZ hXS hA [] rfl (by decide) gL_weights_X5_weights rfl rfl kd_X5_weights ⟨by decide, by decide⟩ (st := [.int (0 : Int32), .ref ho]) rfl (Nat.le_of_ble_eq_true rfl) dL_weights_9 ⟨by decide, by decide⟩) hXS hA [] [0, 1] rfl rfl (by decide) (by decide) [⟨0, 14, 17, 13⟩] ⟨0, 14, 21, 15⟩ [] (htab.trans rfl) (fun z hz => by rw [List.mem_singleton.mp hz]; exact Or.inr ⟨by decide, "java/lang/IndexOutOfBoundsException", List.mem_of_getElem? (i := 1) rfl, by decide +kernel⟩) (by decide) (by decide) (List.mem_of_getElem? (i := 2) rfl) 0 rfl (fun x1 => ?_)
  refine g_astore (lv' := [(0, .ref hb), (1, .int a1), (2, .int a2), (3, .int a3), (4, .int a4), (5, .ref ho), (6, .ref x1)]) B dL_weights_21 (by decide) [1, 2, 3, 4, 5, 6, 0] rfl ?_
  refine g_iconst (v := (2 : Int32)) B dL_weights_23 (by decide) ?_
  refine g_widen (k := 1) (n := 6) (by (try dsimp only); omega) (by (try dsimp only); omega) ?_
  exact g_iret_w B hr rfl hlocks () (rfl) (trivial) [1] (by decide) rfl dL_weights_24

set_option maxHeartbeats 4000000 in
set_option maxRecDepth 100000 in
theorem h_draw_x0 (l : Launch) (hfl : l.stackTraces = false) {D : va_G} {cI cL cZ : ClassId} (hb : Nat) (a1 : Int32) (hp : Nat) (ht : Nat) (hg : Nat) (ha : Nat) (hq : Nat) (ho : Nat) (fo : Nat → Int64) (h_a1 : inR a1 0 9999 = false) : HM l yL_draw wsL_draw ({ frames := 7, cells := 1, slots := 6, locals := 122 } : Room) D (gTys cI cL cZ) [.ref hb, .int a1, .ref ho] [(hb, .inr (5, [.ref hp, .ref ht, .ref hg, .ref ha, .ref hq])), (ho, .inl (cL, 1, .inr (.inl fo)))] (fun (_ : Unit) => True) (fun (_ : Unit) => some (.int (1 : Int32))) (fun (_ : Unit) => [(ho, .inl (cL, 1, .inr (.inl fo)))]) := by
  refine HM.ofG cL_draw 4 (some .int) (by decide +kernel) rfl (Nat.le_of_ble_eq_true rfl) ?_
  intro p e s m below meth c A hA htab hZ hXS B hr hlocks hK hN
  refine g_aload_n B dL_draw_0 2 rfl ?_
  refine g_iconst (v := (0 : Int32)) B dL_draw_1 (by decide) ?_
  refine g_aload_n B dL_draw_2 0 rfl ?_
  refine g_iload_n B dL_draw_3 1 rfl ?_
  refine g_xcatch (name := "") (wr := [(hb, .inr (5, [.ref hp, .ref ht, .ref hg, .ref ha, .ref hq])), (ho, .inl (cL, 1, .inr (.inl fo)))]) B (g_xrunV (q0 := 0) (ci := 5) B (k_draw_x0 l hfl (D := D) (cI := cI) (cL := cL) (cZ := cZ) hb a1 (by first | assumption | omega)) hK rfl rfl hN hZ hXS hA [] rfl (by decide) gL_draw_X5_draw rfl rfl kd_X5_draw ⟨by decide, by decide⟩ (st := [.int (0 : Int32), .ref ho]) rfl (Nat.le_of_ble_eq_true rfl) dL_draw_4 ⟨by decide, by decide⟩) hXS hA [] [0, 1] rfl rfl (by decide) (by decide) [] ⟨0, 9, 12, 15⟩ [] (htab.trans rfl) (fun z hz => by cases hz) (by decide) (by decide) (List.mem_of_getElem? (i := 1) rfl) 0 rfl (fun x1 => ?_)
  refine g_astore_n (lv' := [(0, .ref hb), (1, .int a1), (2, .ref ho), (3, .ref x1)]) B dL_draw_12 rfl (by decide) [1, 2, 3, 0] rfl ?_
  refine g_iconst (v := (1 : Int32)) B dL_draw_13 (by decide) ?_
  refine g_widen (k := 1) (n := 6) (by (try dsimp only); omega) (by (try dsimp only); omega) ?_
  exact g_iret_w B hr rfl hlocks () (rfl) (trivial) [1] (by decide) rfl dL_draw_14

set_option maxHeartbeats 4000000 in
set_option maxRecDepth 100000 in
theorem h_mutate_x0 (l : Launch) (hfl : l.stackTraces = false) {D : va_G} {cI cL cZ : ClassId} (hb : Nat) (hp : Nat) (ht : Nat) (hg : Nat) (ha : Nat) (hq : Nat) (a0 : Nat) (a1 : Nat) (a2 : Nat) (a3 : Nat) (ho : Nat) (fo : Nat → Int64)  : HM l yL_mutate wsL_mutate ({ frames := 7, cells := 1, slots := 6, locals := 122 } : Room) D (gTys cI cL cZ) [.ref hb, .ref ho] [(hb, .inr (5, [.ref hp, .ref ht, .ref hg, .ref ha, .ref hq])), (ha, .inr (0, [.ref a0, .ref a1, .ref a2, .ref a3, .int (0 : Int32), .long (0 : Int64)])), (ho, .inl (cL, 1, .inr (.inl fo)))] (fun (_ : Unit) => True) (fun (_ : Unit) => some (.int (1 : Int32))) (fun (_ : Unit) => [(ho, .inl (cL, 1, .inr (.inl fo)))]) := by
  refine HM.ofG cL_mutate 3 (some .int) (by decide +kernel) rfl (Nat.le_of_ble_eq_true rfl) ?_
  intro p e s m below meth c A hA htab hZ hXS B hr hlocks hK hN
  refine g_aload_n B dL_mutate_0 1 rfl ?_
  refine g_iconst (v := (0 : Int32)) B dL_mutate_1 (by decide) ?_
  refine g_aload_n B dL_mutate_2 0 rfl ?_
  refine g_xcatch (name := "") (wr := [(ho, .inl (cL, 1, .inr (.inl fo)))]) B (g_xrunV (q0 := 0) (ci := 5) B (k_mutate_x0 l hfl (D := D) (cI := cI) (cL := cL) (cZ := cZ) hb hp ht hg ha hq a0 a1 a2 a3 ) hK rfl rfl hN hZ hXS hA [0, 1] rfl (by decide) gL_mutate_X5_mutate rfl rfl kd_X5_mutate ⟨by decide, by decide⟩ (st := [.int (0 : Int32), .ref ho]) rfl (Nat.le_of_ble_eq_true rfl) dL_mutate_3 ⟨by decide, by decide⟩) hXS hA [0, 1] [2] rfl rfl (by decide) (by decide) [] ⟨0, 8, 11, 46⟩ [] (htab.trans rfl) (fun z hz => by cases hz) (by decide) (by decide) (List.mem_of_getElem? (i := 1) rfl) 1 rfl (fun x1 => ?_)
  refine g_astore_n (lv' := [(0, .ref hb), (1, .ref ho), (2, .ref x1)]) B dL_mutate_11 rfl (by decide) [1, 2, 0] rfl ?_
  refine g_iconst (v := (1 : Int32)) B dL_mutate_12 (by decide) ?_
  refine g_widen (k := 1) (n := 6) (by (try dsimp only); omega) (by (try dsimp only); omega) ?_
  exact g_iret_w B hr rfl hlocks () (rfl) (trivial) [0] (by decide) rfl dL_mutate_13

set_option maxHeartbeats 4000000 in
set_option maxRecDepth 100000 in
theorem h_ofKnown_x0 (l : Launch) (hfl : l.stackTraces = false) {D : va_G} {cI cL cZ : ClassId} (hb : Nat) (hp : Nat) (ht : Nat) (hg : Nat) (ha : Nat) (hq : Nat) (a0 : Nat) (a1 : Nat) (a2 : Nat) (a3 : Nat) (b1 : Int32) (b2 : Int32) (ho : Nat) (fo : Nat → Int64)  : HM l yL_ofKnown wsL_ofKnown ({ frames := 7, cells := 1, slots := 6, locals := 122 } : Room) D (gTys cI cL cZ) [.ref hb, .int b1, .int b2, .ref ho] [(hb, .inr (5, [.ref hp, .ref ht, .ref hg, .ref ha, .ref hq])), (ha, .inr (0, [.ref a0, .ref a1, .ref a2, .ref a3, .int (0 : Int32), .long (0 : Int64)])), (ho, .inl (cL, 1, .inr (.inl fo)))] (fun (_ : Unit) => True) (fun (_ : Unit) => some (.int (1 : Int32))) (fun (_ : Unit) => [(ho, .inl (cL, 1, .inr (.inl fo)))]) := by
  refine HM.ofG cL_ofKnown 5 (some .int) (by decide +kernel) rfl (Nat.le_of_ble_eq_true rfl) ?_
  intro p e s m below meth c A hA htab hZ hXS B hr hlocks hK hN
  refine g_aload_n B dL_ofKnown_0 3 rfl ?_
  refine g_iconst (v := (0 : Int32)) B dL_ofKnown_1 (by decide) ?_
  refine g_aload_n B dL_ofKnown_2 0 rfl ?_
  refine g_iload_n B dL_ofKnown_3 1 rfl ?_
  refine g_iload_n B dL_ofKnown_4 2 rfl ?_
  refine g_xcatch (name := "") (wr := [(ho, .inl (cL, 1, .inr (.inl fo)))]) B (g_xrunV (q0 := 0) (ci := 5) B (k_ofKnown_x0 l hfl (D := D) (cI := cI) (cL := cL) (cZ := cZ) hb hp ht hg ha hq a0 a1 a2 a3 b1 b2 ) hK rfl rfl hN hZ hXS hA [0, 1] rfl (by decide) gL_ofKnown_X5_ofKnown rfl rfl kd_X5_ofKnown ⟨by decide, by decide⟩ (st := [.int (0 : Int32), .ref ho]) rfl (Nat.le_of_ble_eq_true rfl) dL_ofKnown_5 ⟨by decide, by decide⟩) hXS hA [0, 1] [2] rfl rfl (by decide) (by decide) [] ⟨0, 10, 13, 13⟩ [⟨0, 10, 17, 15⟩] (htab.trans rfl) (fun z hz => by cases hz) (by decide) (by decide) (List.mem_of_getElem? (i := 1) rfl) 2 rfl (fun x1 => ?_)
  refine g_astore (lv' := [(0, .ref hb), (1, .int b1), (2, .int b2), (3, .ref ho), (4, .ref x1)]) B dL_ofKnown_13 (by decide) [1, 2, 3, 4, 0] rfl ?_
  refine g_iconst (v := (1 : Int32)) B dL_ofKnown_15 (by decide) ?_
  refine g_widen (k := 1) (n := 6) (by (try dsimp only); omega) (by (try dsimp only); omega) ?_
  exact g_iret_w B hr rfl hlocks () (rfl) (trivial) [0] (by decide) rfl dL_ofKnown_16

set_option maxHeartbeats 4000000 in
set_option maxRecDepth 100000 in
theorem h_ofEdge_x0 (l : Launch) (hfl : l.stackTraces = false) {D : va_G} {cI cL cZ : ClassId} (hb : Nat) (a1 : Int32) (a2 : Int32) (hp : Nat) (ht : Nat) (hg : Nat) (ha : Nat) (hq : Nat) (ho : Nat) (fo : Nat → Int64) (h_a1 : inR a1 0 23 = false) : HM l yL_ofEdge wsL_ofEdge ({ frames := 8, cells := 1, slots := 6, locals := 144 } : Room) D (gTys cI cL cZ) [.ref hb, .int a1, .int a2, .ref ho] [(hb, .inr (5, [.ref hp, .ref ht, .ref hg, .ref ha, .ref hq])), (ho, .inl (cL, 1, .inr (.inl fo)))] (fun (_ : Unit) => True) (fun (_ : Unit) => some (.int (1 : Int32))) (fun (_ : Unit) => [(ho, .inl (cL, 1, .inr (.inl fo)))]) := by
  refine HM.ofG cL_ofEdge 5 (some .int) (by decide +kernel) rfl (Nat.le_of_ble_eq_true rfl) ?_
  intro p e s m below meth c A hA htab hZ hXS B hr hlocks hK hN
  refine g_aload_n B dL_ofEdge_0 3 rfl ?_
  refine g_iconst (v := (0 : Int32)) B dL_ofEdge_1 (by decide) ?_
  refine g_aload_n B dL_ofEdge_2 0 rfl ?_
  refine g_iload_n B dL_ofEdge_3 1 rfl ?_
  refine g_iload_n B dL_ofEdge_4 2 rfl ?_
  refine g_xcatch (name := "") (wr := [(hb, .inr (5, [.ref hp, .ref ht, .ref hg, .ref ha, .ref hq])), (ho, .inl (cL, 1, .inr (.inl fo)))]) B (g_xrunV (q0 := 0) (ci := 5) B (k_ofEdge_x0 l hfl (D := D) (cI := cI) (cL := cL) (cZ := cZ) hb a1 a2 (by first | assumption | omega)) hK rfl rfl hN hZ hXS hA [] rfl (by decide) gL_ofEdge_X5_ofEdge rfl rfl kd_X5_ofEdge ⟨by decide, by decide⟩ (st := [.int (0 : Int32), .ref ho]) rfl (Nat.le_of_ble_eq_true rfl) dL_ofEdge_5 ⟨by decide, by decide⟩) hXS hA [] [0, 1] rfl rfl (by decide) (by decide) [] ⟨0, 10, 13, 13⟩ [⟨0, 10, 17, 15⟩] (htab.trans rfl) (fun z hz => by cases hz) (by decide) (by decide) (List.mem_of_getElem? (i := 1) rfl) 2 rfl (fun x1 => ?_)
  refine g_astore (lv' := [(0, .ref hb), (1, .int a1), (2, .int a2), (3, .ref ho), (4, .ref x1)]) B dL_ofEdge_13 (by decide) [1, 2, 3, 4, 0] rfl ?_
  refine g_iconst (v := (1 : Int32)) B dL_ofEdge_15 (by decide) ?_
  refine g_widen (k := 1) (n := 6) (by (try dsimp only); omega) (by (try dsimp only); omega) ?_
  exact g_iret_w B hr rfl hlocks () (rfl) (trivial) [1] (by decide) rfl dL_ofEdge_16

set_option maxHeartbeats 4000000 in
set_option maxRecDepth 100000 in
theorem h_ofEdge_x1 (l : Launch) (hfl : l.stackTraces = false) {D : va_G} {cI cL cZ : ClassId} (hb : Nat) (a1 : Int32) (a2 : Int32) (hp : Nat) (ht : Nat) (hg : Nat) (ha : Nat) (hq : Nat) (ho : Nat) (fo : Nat → Int64) (h_a1 : inR a1 0 23 = true) (h_a2 : inR a2 0 2 = false) : HM l yL_ofEdge wsL_ofEdge ({ frames := 7, cells := 1, slots := 6, locals := 124 } : Room) D (gTys cI cL cZ) [.ref hb, .int a1, .int a2, .ref ho] [(hb, .inr (5, [.ref hp, .ref ht, .ref hg, .ref ha, .ref hq])), (ho, .inl (cL, 1, .inr (.inl fo)))] (fun (_ : Unit) => True) (fun (_ : Unit) => some (.int (2 : Int32))) (fun (_ : Unit) => [(ho, .inl (cL, 1, .inr (.inl fo)))]) := by
  refine HM.ofG cL_ofEdge 5 (some .int) (by decide +kernel) rfl (Nat.le_of_ble_eq_true rfl) ?_
  intro p e s m below meth c A hA htab hZ hXS B hr hlocks hK hN
  refine g_aload_n B dL_ofEdge_0 3 rfl ?_
  refine g_iconst (v := (0 : Int32)) B dL_ofEdge_1 (by decide) ?_
  refine g_aload_n B dL_ofEdge_2 0 rfl ?_
  refine g_iload_n B dL_ofEdge_3 1 rfl ?_
  refine g_iload_n B dL_ofEdge_4 2 rfl ?_
  refine g_xcatch (name := "") (wr := [(hb, .inr (5, [.ref hp, .ref ht, .ref hg, .ref ha, .ref hq])), (ho, .inl (cL, 1, .inr (.inl fo)))]) B (g_xrunV (q0 := 0) (ci := 5) B (k_ofEdge_x1 l hfl (D := D) (cI := cI) (cL := cL) (cZ := cZ) hb a1 a2 (by first | assumption | omega) (by first | assumption | omega)) hK rfl rfl hN hZ hXS hA [] rfl (by decide) gL_ofEdge_X5_ofEdge rfl rfl kd_X5_ofEdge ⟨by decide, by decide⟩ (st := [.int (0 : Int32), .ref ho]) rfl (Nat.le_of_ble_eq_true rfl) dL_ofEdge_5 ⟨by decide, by decide⟩) hXS hA [] [0, 1] rfl rfl (by decide) (by decide) [⟨0, 10, 13, 13⟩] ⟨0, 10, 17, 15⟩ [] (htab.trans rfl) (fun z hz => by rw [List.mem_singleton.mp hz]; exact Or.inr ⟨by decide, "java/lang/IndexOutOfBoundsException", List.mem_of_getElem? (i := 1) rfl, by decide +kernel⟩) (by decide) (by decide) (List.mem_of_getElem? (i := 2) rfl) 0 rfl (fun x1 => ?_)
  refine g_astore (lv' := [(0, .ref hb), (1, .int a1), (2, .int a2), (3, .ref ho), (4, .ref x1)]) B dL_ofEdge_17 (by decide) [1, 2, 3, 4, 0] rfl ?_
  refine g_iconst (v := (2 : Int32)) B dL_ofEdge_19 (by decide) ?_
  refine g_widen (k := 1) (n := 6) (by (try dsimp only); omega) (by (try dsimp only); omega) ?_
  exact g_iret_w B hr rfl hlocks () (rfl) (trivial) [1] (by decide) rfl dL_ofEdge_20

set_option maxHeartbeats 4000000 in
set_option maxRecDepth 100000 in
theorem h_many_x0 (l : Launch) (hfl : l.stackTraces = false) {D : va_G} {cI cL cZ : ClassId} (hb : Nat) (a1 : Int32) (hp : Nat) (ht : Nat) (hg : Nat) (ha : Nat) (hq : Nat) (ho : Nat) (fo : Nat → Int64) (h_a1 : inR a1 0 7 = false) : HM l yL_many wsL_many ({ frames := 7, cells := 1, slots := 6, locals := 121 } : Room) D (gTys cI cL cZ) [.ref hb, .int a1, .ref ho] [(hb, .inr (5, [.ref hp, .ref ht, .ref hg, .ref ha, .ref hq])), (ho, .inl (cL, 1, .inr (.inl fo)))] (fun (_ : Unit) => True) (fun (_ : Unit) => some (.int (1 : Int32))) (fun (_ : Unit) => [(ho, .inl (cL, 1, .inr (.inl fo)))]) := by
  refine HM.ofG cL_many 4 (some .int) (by decide +kernel) rfl (Nat.le_of_ble_eq_true rfl) ?_
  intro p e s m below meth c A hA htab hZ hXS B hr hlocks hK hN
  refine g_aload_n B dL_many_0 2 rfl ?_
  refine g_iconst (v := (0 : Int32)) B dL_many_1 (by decide) ?_
  refine g_aload_n B dL_many_2 0 rfl ?_
  refine g_iload_n B dL_many_3 1 rfl ?_
  refine g_xcatch (name := "") (wr := [(hb, .inr (5, [.ref hp, .ref ht, .ref hg, .ref ha, .ref hq])), (ho, .inl (cL, 1, .inr (.inl fo)))]) B (g_xrunV (q0 := 0) (ci := 5) B (k_many_x0 l hfl (D := D) (cI := cI) (cL := cL) (cZ := cZ) hb a1 (by first | assumption | omega)) hK rfl rfl hN hZ hXS hA [] rfl (by decide) gL_many_X5_many rfl rfl kd_X5_many ⟨by decide, by decide⟩ (st := [.int (0 : Int32), .ref ho]) rfl (Nat.le_of_ble_eq_true rfl) dL_many_4 ⟨by decide, by decide⟩) hXS hA [] [0, 1] rfl rfl (by decide) (by decide) [] ⟨0, 9, 12, 15⟩ [] (htab.trans rfl) (fun z hz => by cases hz) (by decide) (by decide) (List.mem_of_getElem? (i := 1) rfl) 0 rfl (fun x1 => ?_)
  refine g_astore_n (lv' := [(0, .ref hb), (1, .int a1), (2, .ref ho), (3, .ref x1)]) B dL_many_12 rfl (by decide) [1, 2, 3, 0] rfl ?_
  refine g_iconst (v := (1 : Int32)) B dL_many_13 (by decide) ?_
  refine g_widen (k := 1) (n := 6) (by (try dsimp only); omega) (by (try dsimp only); omega) ?_
  exact g_iret_w B hr rfl hlocks () (rfl) (trivial) [1] (by decide) rfl dL_many_14

set_option maxHeartbeats 4000000 in
set_option maxRecDepth 100000 in
theorem h_shrink_x1 (l : Launch) (hfl : l.stackTraces = false) {D : va_G} {cI cL cZ : ClassId} (hb : Nat) (hp : Nat) (ht : Nat) (hg : Nat) (ha : Nat) (hq : Nat) (p0 : Nat) (p1 : Nat) (p2 : Nat) (p3 : Nat) (p4 : Nat) (t0 : Nat) (fp : Nat → Int32) (ts : Int32) (tr : Int32) (tf : Int64) (t : Nat) (ho : Nat) (fo : Nat → Int64) (ht1 : t < 10000) : HM l yL_shrink wsL_shrink ({ frames := 7, cells := 1, slots := 6, locals := 122 } : Room) D (gTys cI cL cZ) [.ref hb, .int (nI t), .ref ho] [(hb, .inr (5, [.ref hp, .ref ht, .ref hg, .ref ha, .ref hq])), (hp, .inr (2, [.ref p0, .ref p1, .ref p2, .ref p3, .ref p4])), (p0, .inl (cI, 12, .inl (fun _ => (0 : Int32)))), (p1, .inl (cI, 12, .inl (fun _ => (0 : Int32)))), (p2, .inl (cI, 12, .inl (fun _ => (0 : Int32)))), (p3, .inl (cI, 24, .inl (fun _ => (-1 : Int32)))), (p4, .inl (cZ, 12, .inl (fun _ => (0 : Int32)))), (ht, .inr (4, [.ref t0, .int ts, .int tr, .long tf])), (t0, .inl (cI, 30, .inl fp)), (ho, .inl (cL, 1, .inr (.inl fo)))] (fun (_ : Unit) => True) (fun (_ : Unit) => some (.int (1 : Int32))) (fun (_ : Unit) => [(ho, .inl (cL, 1, .inr (.inl fo)))]) := by
  refine HM.ofG cL_shrink 4 (some .int) (by decide +kernel) rfl (Nat.le_of_ble_eq_true rfl) ?_
  intro p e s m below meth c A hA htab hZ hXS B hr hlocks hK hN
  refine g_aload_n B dL_shrink_0 2 rfl ?_
  refine g_iconst (v := (0 : Int32)) B dL_shrink_1 (by decide) ?_
  refine g_aload_n B dL_shrink_2 0 rfl ?_
  refine g_iload_n B dL_shrink_3 1 rfl ?_
  refine g_xcatch (name := "") (wr := [(ho, .inl (cL, 1, .inr (.inl fo)))]) B (g_xrunV (q0 := 0) (ci := 5) B (k_shrink_x1 l hfl (D := D) (cI := cI) (cL := cL) (cZ := cZ) hb hp ht hg ha hq p0 p1 p2 p3 p4 t0 fp ts tr tf t (by first | assumption | omega)) hK rfl rfl hN hZ hXS hA [0, 1, 2, 3, 4, 5, 6, 7, 8] rfl (by decide) gL_shrink_X5_shrink rfl rfl kd_X5_shrink ⟨by decide, by decide⟩ (st := [.int (0 : Int32), .ref ho]) rfl (Nat.le_of_ble_eq_true rfl) dL_shrink_4 ⟨by decide, by decide⟩) hXS hA [0, 1, 2, 3, 4, 5, 6, 7, 8] [9] rfl rfl (by decide) (by decide) [] ⟨0, 9, 12, 15⟩ [] (htab.trans rfl) (fun z hz => by cases hz) (by decide) (by decide) (List.mem_of_getElem? (i := 1) rfl) 0 rfl (fun x1 => ?_)
  refine g_astore_n (lv' := [(0, .ref hb), (1, .int (nI t)), (2, .ref ho), (3, .ref x1)]) B dL_shrink_12 rfl (by decide) [1, 2, 3, 0] rfl ?_
  refine g_iconst (v := (1 : Int32)) B dL_shrink_13 (by decide) ?_
  refine g_widen (k := 1) (n := 6) (by (try dsimp only); omega) (by (try dsimp only); omega) ?_
  exact g_iret_w B hr rfl hlocks () (rfl) (trivial) [0] (by decide) rfl dL_shrink_14

set_option maxHeartbeats 4000000 in
set_option maxRecDepth 100000 in
theorem h_relation_x0 (l : Launch) (hfl : l.stackTraces = false) {D : va_G} {cI cL cZ : ClassId} (hb : Nat) (a1 : Int32) (a2 : Int32) (a3 : Int32) (hp : Nat) (ht : Nat) (hg : Nat) (ha : Nat) (hq : Nat) (ho : Nat) (fo : Nat → Int64) (h_a1 : inR a1 0 1 = false) : HM l yL_relation wsL_relation ({ frames := 7, cells := 1, slots := 6, locals := 123 } : Room) D (gTys cI cL cZ) [.ref hb, .int a1, .int a2, .int a3, .ref ho] [(hb, .inr (5, [.ref hp, .ref ht, .ref hg, .ref ha, .ref hq])), (ho, .inl (cL, 1, .inr (.inl fo)))] (fun (_ : Unit) => True) (fun (_ : Unit) => some (.int (1 : Int32))) (fun (_ : Unit) => [(ho, .inl (cL, 1, .inr (.inl fo)))]) := by
  refine HM.ofG cL_relation 6 (some .int) (by decide +kernel) rfl (Nat.le_of_ble_eq_true rfl) ?_
  intro p e s m below meth c A hA htab hZ hXS B hr hlocks hK hN
  refine g_aload B dL_relation_0 4 rfl ?_
  refine g_iconst (v := (0 : Int32)) B dL_relation_2 (by decide) ?_
  refine g_aload_n B dL_relation_3 0 rfl ?_
  refine g_iload_n B dL_relation_4 1 rfl ?_
  refine g_iload_n B dL_relation_5 2 rfl ?_
  refine g_iload_n B dL_relation_6 3 rfl ?_
  refine g_xcatch (name := "") (wr := [(hb, .inr (5, [.ref hp, .ref ht, .ref hg, .ref ha, .ref hq])), (ho, .inl (cL, 1, .inr (.inl fo)))]) B (g_xrunV (q0 := 0) (ci := 5) B (k_relation_x0 l hfl (D := D) (cI := cI) (cL := cL) (cZ := cZ) hb a1 a2 a3 (by first | assumption | omega)) hK rfl rfl hN hZ hXS hA [] rfl (by decide) gL_relation_X5_relation rfl rfl kd_X5_relation ⟨by decide, by decide⟩ (st := [.int (0 : Int32), .ref ho]) rfl (Nat.le_of_ble_eq_true rfl) dL_relation_7 ⟨by decide, by decide⟩) hXS hA [] [0, 1] rfl rfl (by decide) (by decide) [] ⟨0, 12, 15, 15⟩ [⟨0, 12, 19, 13⟩, ⟨0, 12, 23, 46⟩] (htab.trans rfl) (fun z hz => by cases hz) (by decide) (by decide) (List.mem_of_getElem? (i := 1) rfl) 0 rfl (fun x1 => ?_)
  refine g_astore (lv' := [(0, .ref hb), (1, .int a1), (2, .int a2), (3, .int a3), (4, .ref ho), (5, .ref x1)]) B dL_relation_15 (by decide) [1, 2, 3, 4, 5, 0] rfl ?_
  refine g_iconst (v := (1 : Int32)) B dL_relation_17 (by decide) ?_
  refine g_widen (k := 1) (n := 6) (by (try dsimp only); omega) (by (try dsimp only); omega) ?_
  exact g_iret_w B hr rfl hlocks () (rfl) (trivial) [1] (by decide) rfl dL_relation_18

set_option maxHeartbeats 4000000 in
set_option maxRecDepth 100000 in
theorem h_relation_x1 (l : Launch) (hfl : l.stackTraces = false) {D : va_G} {cI cL cZ : ClassId} (hb : Nat) (a2 : Int32) (hp : Nat) (ht : Nat) (hg : Nat) (ha : Nat) (hq : Nat) (ho : Nat) (fo : Nat → Int64)  : HM l yL_relation wsL_relation ({ frames := 7, cells := 1, slots := 6, locals := 123 } : Room) D (gTys cI cL cZ) [.ref hb, .int (0 : Int32), .int a2, .int a2, .ref ho] [(hb, .inr (5, [.ref hp, .ref ht, .ref hg, .ref ha, .ref hq])), (ho, .inl (cL, 1, .inr (.inl fo)))] (fun (_ : Unit) => True) (fun (_ : Unit) => some (.int (1 : Int32))) (fun (_ : Unit) => [(ho, .inl (cL, 1, .inr (.inl fo)))]) := by
  refine HM.ofG cL_relation 6 (some .int) (by decide +kernel) rfl (Nat.le_of_ble_eq_true rfl) ?_
  intro p e s m below meth c A hA htab hZ hXS B hr hlocks hK hN
  refine g_aload B dL_relation_0 4 rfl ?_
  refine g_iconst (v := (0 : Int32)) B dL_relation_2 (by decide) ?_
  refine g_aload_n B dL_relation_3 0 rfl ?_
  refine g_iload_n B dL_relation_4 1 rfl ?_
  refine g_iload_n B dL_relation_5 2 rfl ?_
  refine g_iload_n B dL_relation_6 3 rfl ?_
  refine g_xcatch (name := "") (wr := [(hb, .inr (5, [.ref hp, .ref ht, .ref hg, .ref ha, .ref hq])), (ho, .inl (cL, 1, .inr (.inl fo)))]) B (g_xrunV (q0 := 0) (ci := 5) B (k_relation_x1 l hfl (D := D) (cI := cI) (cL := cL) (cZ := cZ) hb a2 ) hK rfl rfl hN hZ hXS hA [] rfl (by decide) gL_relation_X5_relation rfl rfl kd_X5_relation ⟨by decide, by decide⟩ (st := [.int (0 : Int32), .ref ho]) rfl (Nat.le_of_ble_eq_true rfl) dL_relation_7 ⟨by decide, by decide⟩) hXS hA [] [0, 1] rfl rfl (by decide) (by decide) [] ⟨0, 12, 15, 15⟩ [⟨0, 12, 19, 13⟩, ⟨0, 12, 23, 46⟩] (htab.trans rfl) (fun z hz => by cases hz) (by decide) (by decide) (List.mem_of_getElem? (i := 1) rfl) 0 rfl (fun x1 => ?_)
  refine g_astore (lv' := [(0, .ref hb), (1, .int (0 : Int32)), (2, .int a2), (3, .int a2), (4, .ref ho), (5, .ref x1)]) B dL_relation_15 (by decide) [1, 2, 3, 4, 5, 0] rfl ?_
  refine g_iconst (v := (1 : Int32)) B dL_relation_17 (by decide) ?_
  refine g_widen (k := 1) (n := 6) (by (try dsimp only); omega) (by (try dsimp only); omega) ?_
  exact g_iret_w B hr rfl hlocks () (rfl) (trivial) [1] (by decide) rfl dL_relation_18

set_option maxHeartbeats 4000000 in
set_option maxRecDepth 100000 in
theorem h_relation_x2 (l : Launch) (hfl : l.stackTraces = false) {D : va_G} {cI cL cZ : ClassId} (hb : Nat) (a2 : Int32) (a3 : Int32) (hp : Nat) (ht : Nat) (hg : Nat) (ha : Nat) (hq : Nat) (ho : Nat) (fo : Nat → Int64) (h0 : ¬ a2 = a3) (h_a2 : inR a2 0 3 = false) : HM l yL_relation wsL_relation ({ frames := 8, cells := 1, slots := 6, locals := 143 } : Room) D (gTys cI cL cZ) [.ref hb, .int (0 : Int32), .int a2, .int a3, .ref ho] [(hb, .inr (5, [.ref hp, .ref ht, .ref hg, .ref ha, .ref hq])), (ho, .inl (cL, 1, .inr (.inl fo)))] (fun (_ : Unit) => True) (fun (_ : Unit) => some (.int (2 : Int32))) (fun (_ : Unit) => [(ho, .inl (cL, 1, .inr (.inl fo)))]) := by
  refine HM.ofG cL_relation 6 (some .int) (by decide +kernel) rfl (Nat.le_of_ble_eq_true rfl) ?_
  intro p e s m below meth c A hA htab hZ hXS B hr hlocks hK hN
  refine g_aload B dL_relation_0 4 rfl ?_
  refine g_iconst (v := (0 : Int32)) B dL_relation_2 (by decide) ?_
  refine g_aload_n B dL_relation_3 0 rfl ?_
  refine g_iload_n B dL_relation_4 1 rfl ?_
  refine g_iload_n B dL_relation_5 2 rfl ?_
  refine g_iload_n B dL_relation_6 3 rfl ?_
  refine g_xcatch (name := "") (wr := [(hb, .inr (5, [.ref hp, .ref ht, .ref hg, .ref ha, .ref hq])), (ho, .inl (cL, 1, .inr (.inl fo)))]) B (g_xrunV (q0 := 0) (ci := 5) B (k_relation_x2 l hfl (D := D) (cI := cI) (cL := cL) (cZ := cZ) hb a2 a3 (by first | assumption | omega) (by first | assumption | omega)) hK rfl rfl hN hZ hXS hA [] rfl (by decide) gL_relation_X5_relation rfl rfl kd_X5_relation ⟨by decide, by decide⟩ (st := [.int (0 : Int32), .ref ho]) rfl (Nat.le_of_ble_eq_true rfl) dL_relation_7 ⟨by decide, by decide⟩) hXS hA [] [0, 1] rfl rfl (by decide) (by decide) [⟨0, 12, 15, 15⟩] ⟨0, 12, 19, 13⟩ [⟨0, 12, 23, 46⟩] (htab.trans rfl) (fun z hz => by rw [List.mem_singleton.mp hz]; exact Or.inr ⟨by decide, "java/lang/IllegalArgumentException", List.mem_of_getElem? (i := 1) rfl, by decide +kernel⟩) (by decide) (by decide) (List.mem_of_getElem? (i := 2) rfl) 2 rfl (fun x1 => ?_)
  refine g_astore (lv' := [(0, .ref hb), (1, .int (0 : Int32)), (2, .int a2), (3, .int a3), (4, .ref ho), (5, .ref x1)]) B dL_relation_19 (by decide) [1, 2, 3, 4, 5, 0] rfl ?_
  refine g_iconst (v := (2 : Int32)) B dL_relation_21 (by decide) ?_
  refine g_widen (k := 1) (n := 6) (by (try dsimp only); omega) (by (try dsimp only); omega) ?_
  exact g_iret_w B hr rfl hlocks () (rfl) (trivial) [1] (by decide) rfl dL_relation_22

set_option maxHeartbeats 4000000 in
set_option maxRecDepth 100000 in
theorem h_relation_x3 (l : Launch) (hfl : l.stackTraces = false) {D : va_G} {cI cL cZ : ClassId} (hb : Nat) (a2 : Int32) (a3 : Int32) (hp : Nat) (ht : Nat) (hg : Nat) (ha : Nat) (hq : Nat) (ho : Nat) (fo : Nat → Int64) (h0 : ¬ a2 = a3) (h_a2 : inR a2 0 3 = true) (h_a3 : inR a3 0 3 = false) : HM l yL_relation wsL_relation ({ frames := 8, cells := 1, slots := 6, locals := 143 } : Room) D (gTys cI cL cZ) [.ref hb, .int (0 : Int32), .int a2, .int a3, .ref ho] [(hb, .inr (5, [.ref hp, .ref ht, .ref hg, .ref ha, .ref hq])), (ho, .inl (cL, 1, .inr (.inl fo)))] (fun (_ : Unit) => True) (fun (_ : Unit) => some (.int (2 : Int32))) (fun (_ : Unit) => [(ho, .inl (cL, 1, .inr (.inl fo)))]) := by
  refine HM.ofG cL_relation 6 (some .int) (by decide +kernel) rfl (Nat.le_of_ble_eq_true rfl) ?_
  intro p e s m below meth c A hA htab hZ hXS B hr hlocks hK hN
  refine g_aload B dL_relation_0 4 rfl ?_
  refine g_iconst (v := (0 : Int32)) B dL_relation_2 (by decide) ?_
  refine g_aload_n B dL_relation_3 0 rfl ?_
  refine g_iload_n B dL_relation_4 1 rfl ?_
  refine g_iload_n B dL_relation_5 2 rfl ?_
  refine g_iload_n B dL_relation_6 3 rfl ?_
  refine g_xcatch (name := "") (wr := [(hb, .inr (5, [.ref hp, .ref ht, .ref hg, .ref ha, .ref hq])), (ho, .inl (cL, 1, .inr (.inl fo)))]) B (g_xrunV (q0 := 0) (ci := 5) B (k_relation_x3 l hfl (D := D) (cI := cI) (cL := cL) (cZ := cZ) hb a2 a3 (by first | assumption | omega) (by first | assumption | omega) (by first | assumption | omega)) hK rfl rfl hN hZ hXS hA [] rfl (by decide) gL_relation_X5_relation rfl rfl kd_X5_relation ⟨by decide, by decide⟩ (st := [.int (0 : Int32), .ref ho]) rfl (Nat.le_of_ble_eq_true rfl) dL_relation_7 ⟨by decide, by decide⟩) hXS hA [] [0, 1] rfl rfl (by decide) (by decide) [⟨0, 12, 15, 15⟩] ⟨0, 12, 19, 13⟩ [⟨0, 12, 23, 46⟩] (htab.trans rfl) (fun z hz => by rw [List.mem_singleton.mp hz]; exact Or.inr ⟨by decide, "java/lang/IllegalArgumentException", List.mem_of_getElem? (i := 1) rfl, by decide +kernel⟩) (by decide) (by decide) (List.mem_of_getElem? (i := 2) rfl) 2 rfl (fun x1 => ?_)
  refine g_astore (lv' := [(0, .ref hb), (1, .int (0 : Int32)), (2, .int a2), (3, .int a3), (4, .ref ho), (5, .ref x1)]) B dL_relation_19 (by decide) [1, 2, 3, 4, 5, 0] rfl ?_
  refine g_iconst (v := (2 : Int32)) B dL_relation_21 (by decide) ?_
  refine g_widen (k := 1) (n := 6) (by (try dsimp only); omega) (by (try dsimp only); omega) ?_
  exact g_iret_w B hr rfl hlocks () (rfl) (trivial) [1] (by decide) rfl dL_relation_22

set_option maxHeartbeats 4000000 in
set_option maxRecDepth 100000 in
theorem h_relation_x4 (l : Launch) (hfl : l.stackTraces = false) {D : va_G} {cI cL cZ : ClassId} (hb : Nat) (a2 : Int32) (a3 : Int32) (hp : Nat) (ht : Nat) (hg : Nat) (ha : Nat) (hq : Nat) (ho : Nat) (fo : Nat → Int64) (h_a2 : inR a2 0 3 = false) : HM l yL_relation wsL_relation ({ frames := 8, cells := 1, slots := 6, locals := 143 } : Room) D (gTys cI cL cZ) [.ref hb, .int (1 : Int32), .int a2, .int a3, .ref ho] [(hb, .inr (5, [.ref hp, .ref ht, .ref hg, .ref ha, .ref hq])), (ho, .inl (cL, 1, .inr (.inl fo)))] (fun (_ : Unit) => True) (fun (_ : Unit) => some (.int (2 : Int32))) (fun (_ : Unit) => [(ho, .inl (cL, 1, .inr (.inl fo)))]) := by
  refine HM.ofG cL_relation 6 (some .int) (by decide +kernel) rfl (Nat.le_of_ble_eq_true rfl) ?_
  intro p e s m below meth c A hA htab hZ hXS B hr hlocks hK hN
  refine g_aload B dL_relation_0 4 rfl ?_
  refine g_iconst (v := (0 : Int32)) B dL_relation_2 (by decide) ?_
  refine g_aload_n B dL_relation_3 0 rfl ?_
  refine g_iload_n B dL_relation_4 1 rfl ?_
  refine g_iload_n B dL_relation_5 2 rfl ?_
  refine g_iload_n B dL_relation_6 3 rfl ?_
  refine g_xcatch (name := "") (wr := [(hb, .inr (5, [.ref hp, .ref ht, .ref hg, .ref ha, .ref hq])), (ho, .inl (cL, 1, .inr (.inl fo)))]) B (g_xrunV (q0 := 0) (ci := 5) B (k_relation_x4 l hfl (D := D) (cI := cI) (cL := cL) (cZ := cZ) hb a2 a3 (by first | assumption | omega)) hK rfl rfl hN hZ hXS hA [] rfl (by decide) gL_relation_X5_relation rfl rfl kd_X5_relation ⟨by decide, by decide⟩ (st := [.int (0 : Int32), .ref ho]) rfl (Nat.le_of_ble_eq_true rfl) dL_relation_7 ⟨by decide, by decide⟩) hXS hA [] [0, 1] rfl rfl (by decide) (by decide) [⟨0, 12, 15, 15⟩] ⟨0, 12, 19, 13⟩ [⟨0, 12, 23, 46⟩] (htab.trans rfl) (fun z hz => by rw [List.mem_singleton.mp hz]; exact Or.inr ⟨by decide, "java/lang/IllegalArgumentException", List.mem_of_getElem? (i := 1) rfl, by decide +kernel⟩) (by decide) (by decide) (List.mem_of_getElem? (i := 2) rfl) 2 rfl (fun x1 => ?_)
  refine g_astore (lv' := [(0, .ref hb), (1, .int (1 : Int32)), (2, .int a2), (3, .int a3), (4, .ref ho), (5, .ref x1)]) B dL_relation_19 (by decide) [1, 2, 3, 4, 5, 0] rfl ?_
  refine g_iconst (v := (2 : Int32)) B dL_relation_21 (by decide) ?_
  refine g_widen (k := 1) (n := 6) (by (try dsimp only); omega) (by (try dsimp only); omega) ?_
  exact g_iret_w B hr rfl hlocks () (rfl) (trivial) [1] (by decide) rfl dL_relation_22

set_option maxHeartbeats 4000000 in
set_option maxRecDepth 100000 in
theorem h_breaks_x0 (l : Launch) (hfl : l.stackTraces = false) {D : va_G} {cI cL cZ : ClassId} (hb : Nat) (hp : Nat) (ht : Nat) (hg : Nat) (ha : Nat) (hq : Nat) (r0 : Nat) (r1 : Nat) (r2 : Nat) (a1 : Int32) (a2 : Int32) (ho : Nat) (fo : Nat → Int64)  : HM l yL_breaks wsL_breaks ({ frames := 8, cells := 1, slots := 6, locals := 143 } : Room) D (gTys cI cL cZ) [.ref hb, .int a1, .int a2, .ref ho] [(hb, .inr (5, [.ref hp, .ref ht, .ref hg, .ref ha, .ref hq])), (hq, .inr (3, [.ref r0, .ref r1, .ref r2, .int (0 : Int32)])), (ho, .inl (cL, 1, .inr (.inl fo)))] (fun (_ : Unit) => True) (fun (_ : Unit) => some (.int (1 : Int32))) (fun (_ : Unit) => [(ho, .inl (cL, 1, .inr (.inl fo)))]) := by
  refine HM.ofG cL_breaks 5 (some .int) (by decide +kernel) rfl (Nat.le_of_ble_eq_true rfl) ?_
  intro p e s m below meth c A hA htab hZ hXS B hr hlocks hK hN
  refine g_aload_n B dL_breaks_0 3 rfl ?_
  refine g_iconst (v := (0 : Int32)) B dL_breaks_1 (by decide) ?_
  refine g_aload_n B dL_breaks_2 0 rfl ?_
  refine g_iload_n B dL_breaks_3 1 rfl ?_
  refine g_iload_n B dL_breaks_4 2 rfl ?_
  refine g_xcatch (name := "") (wr := [(ho, .inl (cL, 1, .inr (.inl fo)))]) B (g_xrunV (q0 := 0) (ci := 5) B (k_breaks_x0 l hfl (D := D) (cI := cI) (cL := cL) (cZ := cZ) hb hp ht hg ha hq r0 r1 r2 a1 a2 ) hK rfl rfl hN hZ hXS hA [0, 1] rfl (by decide) gL_breaks_X5_breaks rfl rfl kd_X5_breaks ⟨by decide, by decide⟩ (st := [.int (0 : Int32), .ref ho]) rfl (Nat.le_of_ble_eq_true rfl) dL_breaks_5 ⟨by decide, by decide⟩) hXS hA [0, 1] [2] rfl rfl (by decide) (by decide) [] ⟨0, 17, 20, 13⟩ [⟨0, 17, 24, 15⟩] (htab.trans rfl) (fun z hz => by cases hz) (by decide) (by decide) (List.mem_of_getElem? (i := 1) rfl) 2 rfl (fun x1 => ?_)
  refine g_astore (lv' := [(0, .ref hb), (1, .int a1), (2, .int a2), (3, .ref ho), (4, .ref x1)]) B dL_breaks_20 (by decide) [1, 2, 3, 4, 0] rfl ?_
  refine g_iconst (v := (1 : Int32)) B dL_breaks_22 (by decide) ?_
  refine g_widen (k := 1) (n := 6) (by (try dsimp only); omega) (by (try dsimp only); omega) ?_
  exact g_iret_w B hr rfl hlocks () (rfl) (trivial) [0] (by decide) rfl dL_breaks_23

set_option maxHeartbeats 4000000 in
set_option maxRecDepth 100000 in
theorem h_brokenBy_x0 (l : Launch) (hfl : l.stackTraces = false) {D : va_G} {cI cL cZ : ClassId} (hb : Nat) (hp : Nat) (ht : Nat) (hg : Nat) (ha : Nat) (hq : Nat) (r0 : Nat) (r1 : Nat) (r2 : Nat) (a1 : Int32) (ho : Nat) (fo : Nat → Int64)  : HM l yL_brokenBy wsL_brokenBy ({ frames := 8, cells := 1, slots := 6, locals := 144 } : Room) D (gTys cI cL cZ) [.ref hb, .int a1, .ref ho] [(hb, .inr (5, [.ref hp, .ref ht, .ref hg, .ref ha, .ref hq])), (hq, .inr (3, [.ref r0, .ref r1, .ref r2, .int (0 : Int32)])), (ho, .inl (cL, 1, .inr (.inl fo)))] (fun (_ : Unit) => True) (fun (_ : Unit) => some (.int (1 : Int32))) (fun (_ : Unit) => [(ho, .inl (cL, 1, .inr (.inl fo)))]) := by
  refine HM.ofG cL_brokenBy 4 (some .int) (by decide +kernel) rfl (Nat.le_of_ble_eq_true rfl) ?_
  intro p e s m below meth c A hA htab hZ hXS B hr hlocks hK hN
  refine g_aload_n B dL_brokenBy_0 2 rfl ?_
  refine g_iconst (v := (0 : Int32)) B dL_brokenBy_1 (by decide) ?_
  refine g_aload_n B dL_brokenBy_2 0 rfl ?_
  refine g_iload_n B dL_brokenBy_3 1 rfl ?_
  refine g_xcatch (name := "") (wr := [(ho, .inl (cL, 1, .inr (.inl fo)))]) B (g_xrunV (q0 := 0) (ci := 5) B (k_brokenBy_x0 l hfl (D := D) (cI := cI) (cL := cL) (cZ := cZ) hb hp ht hg ha hq r0 r1 r2 a1 ) hK rfl rfl hN hZ hXS hA [0, 1] rfl (by decide) gL_brokenBy_X5_brokenBy rfl rfl kd_X5_brokenBy ⟨by decide, by decide⟩ (st := [.int (0 : Int32), .ref ho]) rfl (Nat.le_of_ble_eq_true rfl) dL_brokenBy_4 ⟨by decide, by decide⟩) hXS hA [0, 1] [2] rfl rfl (by decide) (by decide) [] ⟨0, 9, 12, 13⟩ [] (htab.trans rfl) (fun z hz => by cases hz) (by decide) (by decide) (List.mem_of_getElem? (i := 1) rfl) 2 rfl (fun x1 => ?_)
  refine g_astore_n (lv' := [(0, .ref hb), (1, .int a1), (2, .ref ho), (3, .ref x1)]) B dL_brokenBy_12 rfl (by decide) [1, 2, 3, 0] rfl ?_
  refine g_iconst (v := (1 : Int32)) B dL_brokenBy_13 (by decide) ?_
  refine g_widen (k := 1) (n := 6) (by (try dsimp only); omega) (by (try dsimp only); omega) ?_
  exact g_iret_w B hr rfl hlocks () (rfl) (trivial) [0] (by decide) rfl dL_brokenBy_14

set_option maxHeartbeats 4000000 in
set_option maxRecDepth 100000 in
theorem h_otherwise_x0 (l : Launch) (hfl : l.stackTraces = false) {D : va_G} {cI cL cZ : ClassId} (hb : Nat) (a1 : Int32) (a2 : Int32) (a3 : Int32) (hp : Nat) (ht : Nat) (hg : Nat) (ha : Nat) (hq : Nat) (ho : Nat) (fo : Nat → Int64) (h_a1 : inR a1 0 11 = false) : HM l yL_otherwise wsL_otherwise ({ frames := 8, cells := 1, slots := 6, locals := 148 } : Room) D (gTys cI cL cZ) [.ref hb, .int a1, .int a2, .int a3, .ref ho] [(hb, .inr (5, [.ref hp, .ref ht, .ref hg, .ref ha, .ref hq])), (ho, .inl (cL, 1, .inr (.inl fo)))] (fun (_ : Unit) => True) (fun (_ : Unit) => some (.int (1 : Int32))) (fun (_ : Unit) => [(ho, .inl (cL, 1, .inr (.inl fo)))]) := by
  refine HM.ofG cL_otherwise 6 (some .int) (by decide +kernel) rfl (Nat.le_of_ble_eq_true rfl) ?_
  intro p e s m below meth c A hA htab hZ hXS B hr hlocks hK hN
  refine g_aload B dL_otherwise_0 4 rfl ?_
  refine g_iconst (v := (0 : Int32)) B dL_otherwise_2 (by decide) ?_
  refine g_aload_n B dL_otherwise_3 0 rfl ?_
  refine g_iload_n B dL_otherwise_4 1 rfl ?_
  refine g_iload_n B dL_otherwise_5 2 rfl ?_
  refine g_iload_n B dL_otherwise_6 3 rfl ?_
  refine g_xcatch (name := "") (wr := [(hb, .inr (5, [.ref hp, .ref ht, .ref hg, .ref ha, .ref hq])), (ho, .inl (cL, 1, .inr (.inl fo)))]) B (g_xrunV (q0 := 0) (ci := 5) B (k_otherwise_x0 l hfl (D := D) (cI := cI) (cL := cL) (cZ := cZ) hb a1 a2 a3 (by first | assumption | omega)) hK rfl rfl hN hZ hXS hA [] rfl (by decide) gL_otherwise_X5_otherwise rfl rfl kd_X5_otherwise ⟨by decide, by decide⟩ (st := [.int (0 : Int32), .ref ho]) rfl (Nat.le_of_ble_eq_true rfl) dL_otherwise_7 ⟨by decide, by decide⟩) hXS hA [] [0, 1] rfl rfl (by decide) (by decide) [] ⟨0, 12, 15, 13⟩ [⟨0, 12, 19, 15⟩] (htab.trans rfl) (fun z hz => by cases hz) (by decide) (by decide) (List.mem_of_getElem? (i := 1) rfl) 2 rfl (fun x1 => ?_)
  refine g_astore (lv' := [(0, .ref hb), (1, .int a1), (2, .int a2), (3, .int a3), (4, .ref ho), (5, .ref x1)]) B dL_otherwise_15 (by decide) [1, 2, 3, 4, 5, 0] rfl ?_
  refine g_iconst (v := (1 : Int32)) B dL_otherwise_17 (by decide) ?_
  refine g_widen (k := 1) (n := 6) (by (try dsimp only); omega) (by (try dsimp only); omega) ?_
  exact g_iret_w B hr rfl hlocks () (rfl) (trivial) [1] (by decide) rfl dL_otherwise_18

set_option maxHeartbeats 4000000 in
set_option maxRecDepth 100000 in
theorem h_otherwise_x1 (l : Launch) (hfl : l.stackTraces = false) {D : va_G} {cI cL cZ : ClassId} (hb : Nat) (a1 : Int32) (a2 : Int32) (a3 : Int32) (hp : Nat) (ht : Nat) (hg : Nat) (ha : Nat) (hq : Nat) (ho : Nat) (fo : Nat → Int64) (h_a1 : inR a1 0 11 = true) (h_a2 : inR a2 0 2 = false) : HM l yL_otherwise wsL_otherwise ({ frames := 8, cells := 1, slots := 6, locals := 149 } : Room) D (gTys cI cL cZ) [.ref hb, .int a1, .int a2, .int a3, .ref ho] [(hb, .inr (5, [.ref hp, .ref ht, .ref hg, .ref ha, .ref hq])), (ho, .inl (cL, 1, .inr (.inl fo)))] (fun (_ : Unit) => True) (fun (_ : Unit) => some (.int (2 : Int32))) (fun (_ : Unit) => [(ho, .inl (cL, 1, .inr (.inl fo)))]) := by
  refine HM.ofG cL_otherwise 6 (some .int) (by decide +kernel) rfl (Nat.le_of_ble_eq_true rfl) ?_
  intro p e s m below meth c A hA htab hZ hXS B hr hlocks hK hN
  refine g_aload B dL_otherwise_0 4 rfl ?_
  refine g_iconst (v := (0 : Int32)) B dL_otherwise_2 (by decide) ?_
  refine g_aload_n B dL_otherwise_3 0 rfl ?_
  refine g_iload_n B dL_otherwise_4 1 rfl ?_
  refine g_iload_n B dL_otherwise_5 2 rfl ?_
  refine g_iload_n B dL_otherwise_6 3 rfl ?_
  refine g_xcatch (name := "") (wr := [(hb, .inr (5, [.ref hp, .ref ht, .ref hg, .ref ha, .ref hq])), (ho, .inl (cL, 1, .inr (.inl fo)))]) B (g_xrunV (q0 := 0) (ci := 5) B (k_otherwise_x1 l hfl (D := D) (cI := cI) (cL := cL) (cZ := cZ) hb a1 a2 a3 (by first | assumption | omega) (by first | assumption | omega)) hK rfl rfl hN hZ hXS hA [] rfl (by decide) gL_otherwise_X5_otherwise rfl rfl kd_X5_otherwise ⟨by decide, by decide⟩ (st := [.int (0 : Int32), .ref ho]) rfl (Nat.le_of_ble_eq_true rfl) dL_otherwise_7 ⟨by decide, by decide⟩) hXS hA [] [0, 1] rfl rfl (by decide) (by decide) [⟨0, 12, 15, 13⟩] ⟨0, 12, 19, 15⟩ [] (htab.trans rfl) (fun z hz => by rw [List.mem_singleton.mp hz]; exact Or.inr ⟨by decide, "java/lang/IndexOutOfBoundsException", List.mem_of_getElem? (i := 1) rfl, by decide +kernel⟩) (by decide) (by decide) (List.mem_of_getElem? (i := 2) rfl) 0 rfl (fun x1 => ?_)
  refine g_astore (lv' := [(0, .ref hb), (1, .int a1), (2, .int a2), (3, .int a3), (4, .ref ho), (5, .ref x1)]) B dL_otherwise_19 (by decide) [1, 2, 3, 4, 5, 0] rfl ?_
  refine g_iconst (v := (2 : Int32)) B dL_otherwise_21 (by decide) ?_
  refine g_widen (k := 1) (n := 6) (by (try dsimp only); omega) (by (try dsimp only); omega) ?_
  exact g_iret_w B hr rfl hlocks () (rfl) (trivial) [1] (by decide) rfl dL_otherwise_22

set_option maxHeartbeats 4000000 in
set_option maxRecDepth 100000 in
theorem h_otherwise_x2 (l : Launch) (hfl : l.stackTraces = false) {D : va_G} {cI cL cZ : ClassId} (hb : Nat) (a1 : Int32) (a2 : Int32) (a3 : Int32) (hp : Nat) (ht : Nat) (hg : Nat) (ha : Nat) (hq : Nat) (ho : Nat) (fo : Nat → Int64) (h_a1 : inR a1 0 11 = true) (h_a2 : inR a2 0 2 = true) (h_a3 : inR a3 0 9 = false) : HM l yL_otherwise wsL_otherwise ({ frames := 8, cells := 1, slots := 6, locals := 149 } : Room) D (gTys cI cL cZ) [.ref hb, .int a1, .int a2, .int a3, .ref ho] [(hb, .inr (5, [.ref hp, .ref ht, .ref hg, .ref ha, .ref hq])), (ho, .inl (cL, 1, .inr (.inl fo)))] (fun (_ : Unit) => True) (fun (_ : Unit) => some (.int (2 : Int32))) (fun (_ : Unit) => [(ho, .inl (cL, 1, .inr (.inl fo)))]) := by
  refine HM.ofG cL_otherwise 6 (some .int) (by decide +kernel) rfl (Nat.le_of_ble_eq_true rfl) ?_
  intro p e s m below meth c A hA htab hZ hXS B hr hlocks hK hN
  refine g_aload B dL_otherwise_0 4 rfl ?_
  refine g_iconst (v := (0 : Int32)) B dL_otherwise_2 (by decide) ?_
  refine g_aload_n B dL_otherwise_3 0 rfl ?_
  refine g_iload_n B dL_otherwise_4 1 rfl ?_
  refine g_iload_n B dL_otherwise_5 2 rfl ?_
  refine g_iload_n B dL_otherwise_6 3 rfl ?_
  refine g_xcatch (name := "") (wr := [(hb, .inr (5, [.ref hp, .ref ht, .ref hg, .ref ha, .ref hq])), (ho, .inl (cL, 1, .inr (.inl fo)))]) B (g_xrunV (q0 := 0) (ci := 5) B (k_otherwise_x2 l hfl (D := D) (cI := cI) (cL := cL) (cZ := cZ) hb a1 a2 a3 (by first | assumption | omega) (by first | assumption | omega) (by first | assumption | omega)) hK rfl rfl hN hZ hXS hA [] rfl (by decide) gL_otherwise_X5_otherwise rfl rfl kd_X5_otherwise ⟨by decide, by decide⟩ (st := [.int (0 : Int32), .ref ho]) rfl (Nat.le_of_ble_eq_true rfl) dL_otherwise_7 ⟨by decide, by decide⟩) hXS hA [] [0, 1] rfl rfl (by decide) (by decide) [⟨0, 12, 15, 13⟩] ⟨0, 12, 19, 15⟩ [] (htab.trans rfl) (fun z hz => by rw [List.mem_singleton.mp hz]; exact Or.inr ⟨by decide, "java/lang/IndexOutOfBoundsException", List.mem_of_getElem? (i := 1) rfl, by decide +kernel⟩) (by decide) (by decide) (List.mem_of_getElem? (i := 2) rfl) 0 rfl (fun x1 => ?_)
  refine g_astore (lv' := [(0, .ref hb), (1, .int a1), (2, .int a2), (3, .int a3), (4, .ref ho), (5, .ref x1)]) B dL_otherwise_19 (by decide) [1, 2, 3, 4, 5, 0] rfl ?_
  refine g_iconst (v := (2 : Int32)) B dL_otherwise_21 (by decide) ?_
  refine g_widen (k := 1) (n := 6) (by (try dsimp only); omega) (by (try dsimp only); omega) ?_
  exact g_iret_w B hr rfl hlocks () (rfl) (trivial) [1] (by decide) rfl dL_otherwise_22

set_option maxHeartbeats 4000000 in
set_option maxRecDepth 100000 in
theorem h_smallest_x0 (l : Launch) (hfl : l.stackTraces = false) {D : va_G} {cI cL cZ : ClassId} (hb : Nat) (a1 : Int32) (a2 : Int32) (hp : Nat) (ht : Nat) (hg : Nat) (ha : Nat) (hq : Nat) (ho : Nat) (fo : Nat → Int64) (h_a1 : inR a1 0 23 = false) : HM l yL_smallest wsL_smallest ({ frames := 8, cells := 1, slots := 6, locals := 144 } : Room) D (gTys cI cL cZ) [.ref hb, .int a1, .int a2, .ref ho] [(hb, .inr (5, [.ref hp, .ref ht, .ref hg, .ref ha, .ref hq])), (ho, .inl (cL, 1, .inr (.inl fo)))] (fun (_ : Unit) => True) (fun (_ : Unit) => some (.int (1 : Int32))) (fun (_ : Unit) => [(ho, .inl (cL, 1, .inr (.inl fo)))]) := by
  refine HM.ofG cL_smallest 5 (some .int) (by decide +kernel) rfl (Nat.le_of_ble_eq_true rfl) ?_
  intro p e s m below meth c A hA htab hZ hXS B hr hlocks hK hN
  refine g_aload_n B dL_smallest_0 3 rfl ?_
  refine g_iconst (v := (0 : Int32)) B dL_smallest_1 (by decide) ?_
  refine g_aload_n B dL_smallest_2 0 rfl ?_
  refine g_iload_n B dL_smallest_3 1 rfl ?_
  refine g_iload_n B dL_smallest_4 2 rfl ?_
  refine g_xcatch (name := "") (wr := [(hb, .inr (5, [.ref hp, .ref ht, .ref hg, .ref ha, .ref hq])), (ho, .inl (cL, 1, .inr (.inl fo)))]) B (g_xrunV (q0 := 0) (ci := 5) B (k_smallest_x0 l hfl (D := D) (cI := cI) (cL := cL) (cZ := cZ) hb a1 a2 (by first | assumption | omega)) hK rfl rfl hN hZ hXS hA [] rfl (by decide) gL_smallest_X5_smallest rfl rfl kd_X5_smallest ⟨by decide, by decide⟩ (st := [.int (0 : Int32), .ref ho]) rfl (Nat.le_of_ble_eq_true rfl) dL_smallest_5 ⟨by decide, by decide⟩) hXS hA [] [0, 1] rfl rfl (by decide) (by decide) [] ⟨0, 10, 13, 13⟩ [⟨0, 10, 17, 15⟩] (htab.trans rfl) (fun z hz => by cases hz) (by decide) (by decide) (List.mem_of_getElem? (i := 1) rfl) 2 rfl (fun x1 => ?_)
  refine g_astore (lv' := [(0, .ref hb), (1, .int a1), (2, .int a2), (3, .ref ho), (4, .ref x1)]) B dL_smallest_13 (by decide) [1, 2, 3, 4, 0] rfl ?_
  refine g_iconst (v := (1 : Int32)) B dL_smallest_15 (by decide) ?_
  refine g_widen (k := 1) (n := 6) (by (try dsimp only); omega) (by (try dsimp only); omega) ?_
  exact g_iret_w B hr rfl hlocks () (rfl) (trivial) [1] (by decide) rfl dL_smallest_16

set_option maxHeartbeats 4000000 in
set_option maxRecDepth 100000 in
theorem h_smallest_x1 (l : Launch) (hfl : l.stackTraces = false) {D : va_G} {cI cL cZ : ClassId} (hb : Nat) (a1 : Int32) (a2 : Int32) (hp : Nat) (ht : Nat) (hg : Nat) (ha : Nat) (hq : Nat) (ho : Nat) (fo : Nat → Int64) (h_a1 : inR a1 0 23 = true) (h_a2 : inR a2 0 9999 = false) : HM l yL_smallest wsL_smallest ({ frames := 8, cells := 1, slots := 6, locals := 144 } : Room) D (gTys cI cL cZ) [.ref hb, .int a1, .int a2, .ref ho] [(hb, .inr (5, [.ref hp, .ref ht, .ref hg, .ref ha, .ref hq])), (ho, .inl (cL, 1, .inr (.inl fo)))] (fun (_ : Unit) => True) (fun (_ : Unit) => some (.int (2 : Int32))) (fun (_ : Unit) => [(ho, .inl (cL, 1, .inr (.inl fo)))]) := by
  refine HM.ofG cL_smallest 5 (some .int) (by decide +kernel) rfl (Nat.le_of_ble_eq_true rfl) ?_
  intro p e s m below meth c A hA htab hZ hXS B hr hlocks hK hN
  refine g_aload_n B dL_smallest_0 3 rfl ?_
  refine g_iconst (v := (0 : Int32)) B dL_smallest_1 (by decide) ?_
  refine g_aload_n B dL_smallest_2 0 rfl ?_
  refine g_iload_n B dL_smallest_3 1 rfl ?_
  refine g_iload_n B dL_smallest_4 2 rfl ?_
  refine g_xcatch (name := "") (wr := [(hb, .inr (5, [.ref hp, .ref ht, .ref hg, .ref ha, .ref hq])), (ho, .inl (cL, 1, .inr (.inl fo)))]) B (g_xrunV (q0 := 0) (ci := 5) B (k_smallest_x1 l hfl (D := D) (cI := cI) (cL := cL) (cZ := cZ) hb a1 a2 (by first | assumption | omega) (by first | assumption | omega)) hK rfl rfl hN hZ hXS hA [] rfl (by decide) gL_smallest_X5_smallest rfl rfl kd_X5_smallest ⟨by decide, by decide⟩ (st := [.int (0 : Int32), .ref ho]) rfl (Nat.le_of_ble_eq_true rfl) dL_smallest_5 ⟨by decide, by decide⟩) hXS hA [] [0, 1] rfl rfl (by decide) (by decide) [⟨0, 10, 13, 13⟩] ⟨0, 10, 17, 15⟩ [] (htab.trans rfl) (fun z hz => by rw [List.mem_singleton.mp hz]; exact Or.inr ⟨by decide, "java/lang/IndexOutOfBoundsException", List.mem_of_getElem? (i := 1) rfl, by decide +kernel⟩) (by decide) (by decide) (List.mem_of_getElem? (i := 2) rfl) 0 rfl (fun x1 => ?_)
  refine g_astore (lv' := [(0, .ref hb), (1, .int a1), (2, .int a2), (3, .ref ho), (4, .ref x1)]) B dL_smallest_17 (by decide) [1, 2, 3, 4, 0] rfl ?_
  refine g_iconst (v := (2 : Int32)) B dL_smallest_19 (by decide) ?_
  refine g_widen (k := 1) (n := 6) (by (try dsimp only); omega) (by (try dsimp only); omega) ?_
  exact g_iret_w B hr rfl hlocks () (rfl) (trivial) [1] (by decide) rfl dL_smallest_20

set_option maxHeartbeats 4000000 in
set_option maxRecDepth 100000 in
theorem h_ahead_x0 (l : Launch) (hfl : l.stackTraces = false) {D : va_G} {cI cL cZ : ClassId} (hb : Nat) (a1 : Int32) (hp : Nat) (ht : Nat) (hg : Nat) (ha : Nat) (hq : Nat) (ho : Nat) (fo : Nat → Int64) (h_a1 : inR a1 1 50 = false) : HM l yL_ahead wsL_ahead ({ frames := 7, cells := 1, slots := 6, locals := 125 } : Room) D (gTys cI cL cZ) [.ref hb, .int a1, .ref ho] [(hb, .inr (5, [.ref hp, .ref ht, .ref hg, .ref ha, .ref hq])), (ho, .inl (cL, 1, .inr (.inl fo)))] (fun (_ : Unit) => True) (fun (_ : Unit) => some (.int (1 : Int32))) (fun (_ : Unit) => [(ho, .inl (cL, 1, .inr (.inl fo)))]) := by
  refine HM.ofG cL_ahead 4 (some .int) (by decide +kernel) rfl (Nat.le_of_ble_eq_true rfl) ?_
  intro p e s m below meth c A hA htab hZ hXS B hr hlocks hK hN
  refine g_aload_n B dL_ahead_0 2 rfl ?_
  refine g_iconst (v := (0 : Int32)) B dL_ahead_1 (by decide) ?_
  refine g_aload_n B dL_ahead_2 0 rfl ?_
  refine g_iload_n B dL_ahead_3 1 rfl ?_
  refine g_xcatch (name := "") (wr := [(hb, .inr (5, [.ref hp, .ref ht, .ref hg, .ref ha, .ref hq])), (ho, .inl (cL, 1, .inr (.inl fo)))]) B (g_xrunV (q0 := 0) (ci := 5) B (k_ahead_x0 l hfl (D := D) (cI := cI) (cL := cL) (cZ := cZ) hb a1 (by first | assumption | omega)) hK rfl rfl hN hZ hXS hA [] rfl (by decide) gL_ahead_X5_ahead rfl rfl kd_X5_ahead ⟨by decide, by decide⟩ (st := [.int (0 : Int32), .ref ho]) rfl (Nat.le_of_ble_eq_true rfl) dL_ahead_4 ⟨by decide, by decide⟩) hXS hA [] [0, 1] rfl rfl (by decide) (by decide) [] ⟨0, 9, 12, 15⟩ [] (htab.trans rfl) (fun z hz => by cases hz) (by decide) (by decide) (List.mem_of_getElem? (i := 1) rfl) 0 rfl (fun x1 => ?_)
  refine g_astore_n (lv' := [(0, .ref hb), (1, .int a1), (2, .ref ho), (3, .ref x1)]) B dL_ahead_12 rfl (by decide) [1, 2, 3, 0] rfl ?_
  refine g_iconst (v := (1 : Int32)) B dL_ahead_13 (by decide) ?_
  refine g_widen (k := 1) (n := 6) (by (try dsimp only); omega) (by (try dsimp only); omega) ?_
  exact g_iret_w B hr rfl hlocks () (rfl) (trivial) [1] (by decide) rfl dL_ahead_14

set_option maxHeartbeats 4000000 in
set_option maxRecDepth 100000 in
theorem h_ask_v (l : Launch) (hfl : l.stackTraces = false) {D : va_G} {cI cL cZ : ClassId} (hb : Nat) (hp : Nat) (ht : Nat) (hg : Nat) (ha : Nat) (hq : Nat) (p0 : Nat) (p1 : Nat) (p2 : Nat) (p3 : Nat) (p4 : Nat) (a0 : Nat) (a1 : Nat) (a2 : Nat) (a3 : Nat) (b1 : Nat) (b2 : Nat) (b3 : Nat) (b4 : Nat) (ho : Nat) (fo : Nat → Int64) (h1 : b1 < 12) (h2 : b2 < 4) (h3 : b3 < 3) (h4 : b4 < 10) : HM l yL_ask wsL_ask ({ frames := 5, cells := 0, slots := 0, locals := 113 } : Room) D (gTys cI cL cZ) [.ref hb, .int (nI b1), .int (nI b2), .int (nI b3), .int (nI b4), .ref ho] [(hb, .inr (5, [.ref hp, .ref ht, .ref hg, .ref ha, .ref hq])), (hp, .inr (2, [.ref p0, .ref p1, .ref p2, .ref p3, .ref p4])), (p0, .inl (cI, 12, .inl (fun _ => (0 : Int32)))), (p1, .inl (cI, 12, .inl (fun _ => (0 : Int32)))), (p2, .inl (cI, 12, .inl (fun _ => (0 : Int32)))), (ha, .inr (0, [.ref a0, .ref a1, .ref a2, .ref a3, .int (0 : Int32), .long (0 : Int64)])), (ho, .inl (cL, 1, .inr (.inl fo)))] (fun (_ : Unit) => True) (fun (_ : Unit) => some (.int (0 : Int32))) (fun (_ : Unit) => [(ho, .inl (cL, 1, .inr (.inl (vp_updL fo 0 (0 : Int64)))))]) := by
  refine HM.ofG cL_ask 7 (some .int) (by decide +kernel) rfl (Nat.le_of_ble_eq_true rfl) ?_
  intro p e s m below meth c A hA htab hZ hXS B hr hlocks hK hN
  refine g_aload B dL_ask_0 5 rfl ?_
  refine g_iconst (v := (0 : Int32)) B dL_ask_2 (by decide) ?_
  refine g_aload_n B dL_ask_3 0 rfl ?_
  refine g_iload_n B dL_ask_4 1 rfl ?_
  refine g_iload_n B dL_ask_5 2 rfl ?_
  refine g_iload_n B dL_ask_6 3 rfl ?_
  refine g_iload B dL_ask_7 4 rfl ?_
  refine g_callW (w2 := (fun (_ : Unit) => [(ho, .inl (cL, 1, .inr (.inl fo)))])) (g_runV (q0 := 0) (ci := 5) B hK rfl rfl (k_ask_v l (D := D) (cI := cI) (cL := cL) (cZ := cZ) hb hp ht hg ha hq p0 p1 p2 p3 p4 a0 a1 a2 a3 b1 b2 b3 b4 (by first | assumption | omega) (by first | assumption | omega) (by first | assumption | omega) (by first | assumption | omega)) (gPw.pre (av := [.ref hb, .int (nI b1), .int (nI b2), .int (nI b3), .int (nI b4)]) (wc := [(hb, .inr (5, [.ref hp, .ref ht, .ref hg, .ref ha, .ref hq])), (hp, .inr (2, [.ref p0, .ref p1, .ref p2, .ref p3, .ref p4])), (p0, .inl (cI, 12, .inl (fun _ => (0 : Int32)))), (p1, .inl (cI, 12, .inl (fun _ => (0 : Int32)))), (p2, .inl (cI, 12, .inl (fun _ => (0 : Int32)))), (ha, .inr (0, [.ref a0, .ref a1, .ref a2, .ref a3, .int (0 : Int32), .long (0 : Int64)]))]) hK hN [0, 1, 2, 3, 4, 5] rfl (by decide)) gL_ask_X5_ask rfl rfl kd_X5_ask ⟨by decide, by decide⟩ (st := [.int (0 : Int32), .ref ho]) rfl (Nat.le_of_ble_eq_true rfl) dL_ask_9 ⟨by decide, by decide⟩) hA (fun _ h => h) [0, 1, 2, 3, 4, 5] [6] (wr := [(ho, .inl (cL, 1, .inr (.inl fo)))]) rfl rfl (by decide) (by decide) [0] (by decide) (fun _ => rfl) (fun u hu => ?_)
  refine g_i2l (v := (0 : Int64)) B dL_ask_12 (by decide) ?_
  refine g_last B hK 0 1 rfl rfl 0 rfl (by omega) (by omega) (f2 := (vp_updL fo 0 (0 : Int64))) (rfl) (w2 := [(ho, .inl (cL, 1, .inr (.inl (vp_updL fo 0 (0 : Int64)))))]) rfl (fun _ h => h) dL_ask_13 ?_
  refine g_goto (tgt := 25) B dL_ask_14 (by decide) ?_
  refine g_iconst (v := (0 : Int32)) B dL_ask_25 (by decide) ?_
  exact g_iret_w B hr rfl hlocks () (rfl) (trivial) [0] (by decide) rfl dL_ask_26

set_option maxHeartbeats 4000000 in
set_option maxRecDepth 100000 in
theorem h_lead_vmm (l : Launch) (hfl : l.stackTraces = false) {D : va_G} {cI cL cZ : ClassId} (hb : Nat) (hp : Nat) (ht : Nat) (hg : Nat) (ha : Nat) (hq : Nat) (p0 : Nat) (p1 : Nat) (p2 : Nat) (p3 : Nat) (p4 : Nat) (a0 : Nat) (a1 : Nat) (a2 : Nat) (a3 : Nat) (b1 : Nat) (ho : Nat) (fo : Nat → Int64) (h1 : b1 < 12) : HM l yL_lead wsL_lead ({ frames := 5, cells := 0, slots := 0, locals := 112 } : Room) D (gTys cI cL cZ) [.ref hb, .int (nI b1), .int (-1 : Int32), .int (-1 : Int32), .ref ho] [(hb, .inr (5, [.ref hp, .ref ht, .ref hg, .ref ha, .ref hq])), (hp, .inr (2, [.ref p0, .ref p1, .ref p2, .ref p3, .ref p4])), (p3, .inl (cI, 24, .inl (fun _ => (-1 : Int32)))), (ha, .inr (0, [.ref a0, .ref a1, .ref a2, .ref a3, .int (0 : Int32), .long (0 : Int64)])), (ho, .inl (cL, 1, .inr (.inl fo)))] (fun (_ : Unit) => True) (fun (_ : Unit) => some (.int (0 : Int32))) (fun (_ : Unit) => [(ho, .inl (cL, 1, .inr (.inl (vp_updL fo 0 (0 : Int64)))))]) := by
  refine HM.ofG cL_lead 6 (some .int) (by decide +kernel) rfl (Nat.le_of_ble_eq_true rfl) ?_
  intro p e s m below meth c A hA htab hZ hXS B hr hlocks hK hN
  refine g_aload B dL_lead_0 4 rfl ?_
  refine g_iconst (v := (0 : Int32)) B dL_lead_2 (by decide) ?_
  refine g_aload_n B dL_lead_3 0 rfl ?_
  refine g_iload_n B dL_lead_4 1 rfl ?_
  refine g_iload_n B dL_lead_5 2 rfl ?_
  refine g_iload_n B dL_lead_6 3 rfl ?_
  refine g_callW (w2 := (fun (_ : Unit) => [(ho, .inl (cL, 1, .inr (.inl fo)))])) (g_runV (q0 := 0) (ci := 5) B hK rfl rfl (k_lead_vmm l (D := D) (cI := cI) (cL := cL) (cZ := cZ) hb hp ht hg ha hq p0 p1 p2 p3 p4 a0 a1 a2 a3 b1 (by first | assumption | omega)) (gPw.pre (av := [.ref hb, .int (nI b1), .int (-1 : Int32), .int (-1 : Int32)]) (wc := [(hb, .inr (5, [.ref hp, .ref ht, .ref hg, .ref ha, .ref hq])), (hp, .inr (2, [.ref p0, .ref p1, .ref p2, .ref p3, .ref p4])), (p3, .inl (cI, 24, .inl (fun _ => (-1 : Int32)))), (ha, .inr (0, [.ref a0, .ref a1, .ref a2, .ref a3, .int (0 : Int32), .long (0 : Int64)]))]) hK hN [0, 1, 2, 3] rfl (by decide)) gL_lead_X5_lead rfl rfl kd_X5_lead ⟨by decide, by decide⟩ (st := [.int (0 : Int32), .ref ho]) rfl (Nat.le_of_ble_eq_true rfl) dL_lead_7 ⟨by decide, by decide⟩) hA (fun _ h => h) [0, 1, 2, 3] [4] (wr := [(ho, .inl (cL, 1, .inr (.inl fo)))]) rfl rfl (by decide) (by decide) [0] (by decide) (fun _ => rfl) (fun u hu => ?_)
  refine g_i2l (v := (0 : Int64)) B dL_lead_10 (by decide) ?_
  refine g_last B hK 0 1 rfl rfl 0 rfl (by omega) (by omega) (f2 := (vp_updL fo 0 (0 : Int64))) (rfl) (w2 := [(ho, .inl (cL, 1, .inr (.inl (vp_updL fo 0 (0 : Int64)))))]) rfl (fun _ h => h) dL_lead_11 ?_
  refine g_goto (tgt := 19) B dL_lead_12 (by decide) ?_
  refine g_iconst (v := (0 : Int32)) B dL_lead_19 (by decide) ?_
  exact g_iret_w B hr rfl hlocks () (rfl) (trivial) [0] (by decide) rfl dL_lead_20

set_option maxHeartbeats 4000000 in
set_option maxRecDepth 100000 in
theorem h_lead_vmn (l : Launch) (hfl : l.stackTraces = false) {D : va_G} {cI cL cZ : ClassId} (hb : Nat) (hp : Nat) (ht : Nat) (hg : Nat) (ha : Nat) (hq : Nat) (p0 : Nat) (p1 : Nat) (p2 : Nat) (p3 : Nat) (p4 : Nat) (a0 : Nat) (a1 : Nat) (a2 : Nat) (a3 : Nat) (b1 : Nat) (b3 : Nat) (ho : Nat) (fo : Nat → Int64) (h1 : b1 < 12) (k3 : b3 < 12) : HM l yL_lead wsL_lead ({ frames := 5, cells := 0, slots := 0, locals := 112 } : Room) D (gTys cI cL cZ) [.ref hb, .int (nI b1), .int (-1 : Int32), .int (nI b3), .ref ho] [(hb, .inr (5, [.ref hp, .ref ht, .ref hg, .ref ha, .ref hq])), (hp, .inr (2, [.ref p0, .ref p1, .ref p2, .ref p3, .ref p4])), (p3, .inl (cI, 24, .inl (fun _ => (-1 : Int32)))), (ha, .inr (0, [.ref a0, .ref a1, .ref a2, .ref a3, .int (0 : Int32), .long (0 : Int64)])), (ho, .inl (cL, 1, .inr (.inl fo)))] (fun (_ : Unit) => True) (fun (_ : Unit) => some (.int (0 : Int32))) (fun (_ : Unit) => [(ho, .inl (cL, 1, .inr (.inl (vp_updL fo 0 (0 : Int64)))))]) := by
  refine HM.ofG cL_lead 6 (some .int) (by decide +kernel) rfl (Nat.le_of_ble_eq_true rfl) ?_
  intro p e s m below meth c A hA htab hZ hXS B hr hlocks hK hN
  refine g_aload B dL_lead_0 4 rfl ?_
  refine g_iconst (v := (0 : Int32)) B dL_lead_2 (by decide) ?_
  refine g_aload_n B dL_lead_3 0 rfl ?_
  refine g_iload_n B dL_lead_4 1 rfl ?_
  refine g_iload_n B dL_lead_5 2 rfl ?_
  refine g_iload_n B dL_lead_6 3 rfl ?_
  refine g_callW (w2 := (fun (_ : Unit) => [(ho, .inl (cL, 1, .inr (.inl fo)))])) (g_runV (q0 := 0) (ci := 5) B hK rfl rfl (k_lead_vmn l (D := D) (cI := cI) (cL := cL) (cZ := cZ) hb hp ht hg ha hq p0 p1 p2 p3 p4 a0 a1 a2 a3 b1 b3 (by first | assumption | omega) (by first | assumption | omega)) (gPw.pre (av := [.ref hb, .int (nI b1), .int (-1 : Int32), .int (nI b3)]) (wc := [(hb, .inr (5, [.ref hp, .ref ht, .ref hg, .ref ha, .ref hq])), (hp, .inr (2, [.ref p0, .ref p1, .ref p2, .ref p3, .ref p4])), (p3, .inl (cI, 24, .inl (fun _ => (-1 : Int32)))), (ha, .inr (0, [.ref a0, .ref a1, .ref a2, .ref a3, .int (0 : Int32), .long (0 : Int64)]))]) hK hN [0, 1, 2, 3] rfl (by decide)) gL_lead_X5_lead rfl rfl kd_X5_lead ⟨by decide, by decide⟩ (st := [.int (0 : Int32), .ref ho]) rfl (Nat.le_of_ble_eq_true rfl) dL_lead_7 ⟨by decide, by decide⟩) hA (fun _ h => h) [0, 1, 2, 3] [4] (wr := [(ho, .inl (cL, 1, .inr (.inl fo)))]) rfl rfl (by decide) (by decide) [0] (by decide) (fun _ => rfl) (fun u hu => ?_)
  refine g_i2l (v := (0 : Int64)) B dL_lead_10 (by decide) ?_
  refine g_last B hK 0 1 rfl rfl 0 rfl (by omega) (by omega) (f2 := (vp_updL fo 0 (0 : Int64))) (rfl) (w2 := [(ho, .inl (cL, 1, .inr (.inl (vp_updL fo 0 (0 : Int64)))))]) rfl (fun _ h => h) dL_lead_11 ?_
  refine g_goto (tgt := 19) B dL_lead_12 (by decide) ?_
  refine g_iconst (v := (0 : Int32)) B dL_lead_19 (by decide) ?_
  exact g_iret_w B hr rfl hlocks () (rfl) (trivial) [0] (by decide) rfl dL_lead_20

set_option maxHeartbeats 4000000 in
set_option maxRecDepth 100000 in
theorem h_lead_vnm (l : Launch) (hfl : l.stackTraces = false) {D : va_G} {cI cL cZ : ClassId} (hb : Nat) (hp : Nat) (ht : Nat) (hg : Nat) (ha : Nat) (hq : Nat) (p0 : Nat) (p1 : Nat) (p2 : Nat) (p3 : Nat) (p4 : Nat) (a0 : Nat) (a1 : Nat) (a2 : Nat) (a3 : Nat) (b1 : Nat) (b2 : Nat) (ho : Nat) (fo : Nat → Int64) (h1 : b1 < 12) (k2 : b2 < 12) : HM l yL_lead wsL_lead ({ frames := 5, cells := 0, slots := 0, locals := 112 } : Room) D (gTys cI cL cZ) [.ref hb, .int (nI b1), .int (nI b2), .int (-1 : Int32), .ref ho] [(hb, .inr (5, [.ref hp, .ref ht, .ref hg, .ref ha, .ref hq])), (hp, .inr (2, [.ref p0, .ref p1, .ref p2, .ref p3, .ref p4])), (p3, .inl (cI, 24, .inl (fun _ => (-1 : Int32)))), (ha, .inr (0, [.ref a0, .ref a1, .ref a2, .ref a3, .int (0 : Int32), .long (0 : Int64)])), (ho, .inl (cL, 1, .inr (.inl fo)))] (fun (_ : Unit) => True) (fun (_ : Unit) => some (.int (0 : Int32))) (fun (_ : Unit) => [(ho, .inl (cL, 1, .inr (.inl (vp_updL fo 0 (0 : Int64)))))]) := by
  refine HM.ofG cL_lead 6 (some .int) (by decide +kernel) rfl (Nat.le_of_ble_eq_true rfl) ?_
  intro p e s m below meth c A hA htab hZ hXS B hr hlocks hK hN
  refine g_aload B dL_lead_0 4 rfl ?_
  refine g_iconst (v := (0 : Int32)) B dL_lead_2 (by decide) ?_
  refine g_aload_n B dL_lead_3 0 rfl ?_
  refine g_iload_n B dL_lead_4 1 rfl ?_
  refine g_iload_n B dL_lead_5 2 rfl ?_
  refine g_iload_n B dL_lead_6 3 rfl ?_
  refine g_callW (w2 := (fun (_ : Unit) => [(ho, .inl (cL, 1, .inr (.inl fo)))])) (g_runV (q0 := 0) (ci := 5) B hK rfl rfl (k_lead_vnm l (D := D) (cI := cI) (cL := cL) (cZ := cZ) hb hp ht hg ha hq p0 p1 p2 p3 p4 a0 a1 a2 a3 b1 b2 (by first | assumption | omega) (by first | assumption | omega)) (gPw.pre (av := [.ref hb, .int (nI b1), .int (nI b2), .int (-1 : Int32)]) (wc := [(hb, .inr (5, [.ref hp, .ref ht, .ref hg, .ref ha, .ref hq])), (hp, .inr (2, [.ref p0, .ref p1, .ref p2, .ref p3, .ref p4])), (p3, .inl (cI, 24, .inl (fun _ => (-1 : Int32)))), (ha, .inr (0, [.ref a0, .ref a1, .ref a2, .ref a3, .int (0 : Int32), .long (0 : Int64)]))]) hK hN [0, 1, 2, 3] rfl (by decide)) gL_lead_X5_lead rfl rfl kd_X5_lead ⟨by decide, by decide⟩ (st := [.int (0 : Int32), .ref ho]) rfl (Nat.le_of_ble_eq_true rfl) dL_lead_7 ⟨by decide, by decide⟩) hA (fun _ h => h) [0, 1, 2, 3] [4] (wr := [(ho, .inl (cL, 1, .inr (.inl fo)))]) rfl rfl (by decide) (by decide) [0] (by decide) (fun _ => rfl) (fun u hu => ?_)
  refine g_i2l (v := (0 : Int64)) B dL_lead_10 (by decide) ?_
  refine g_last B hK 0 1 rfl rfl 0 rfl (by omega) (by omega) (f2 := (vp_updL fo 0 (0 : Int64))) (rfl) (w2 := [(ho, .inl (cL, 1, .inr (.inl (vp_updL fo 0 (0 : Int64)))))]) rfl (fun _ h => h) dL_lead_11 ?_
  refine g_goto (tgt := 19) B dL_lead_12 (by decide) ?_
  refine g_iconst (v := (0 : Int32)) B dL_lead_19 (by decide) ?_
  exact g_iret_w B hr rfl hlocks () (rfl) (trivial) [0] (by decide) rfl dL_lead_20

set_option maxHeartbeats 4000000 in
set_option maxRecDepth 100000 in
theorem h_lead_vnn (l : Launch) (hfl : l.stackTraces = false) {D : va_G} {cI cL cZ : ClassId} (hb : Nat) (hp : Nat) (ht : Nat) (hg : Nat) (ha : Nat) (hq : Nat) (p0 : Nat) (p1 : Nat) (p2 : Nat) (p3 : Nat) (p4 : Nat) (a0 : Nat) (a1 : Nat) (a2 : Nat) (a3 : Nat) (b1 : Nat) (b2 : Nat) (b3 : Nat) (ho : Nat) (fo : Nat → Int64) (h1 : b1 < 12) (k2 : b2 < 12) (k3 : b3 < 12) : HM l yL_lead wsL_lead ({ frames := 5, cells := 0, slots := 0, locals := 112 } : Room) D (gTys cI cL cZ) [.ref hb, .int (nI b1), .int (nI b2), .int (nI b3), .ref ho] [(hb, .inr (5, [.ref hp, .ref ht, .ref hg, .ref ha, .ref hq])), (hp, .inr (2, [.ref p0, .ref p1, .ref p2, .ref p3, .ref p4])), (p3, .inl (cI, 24, .inl (fun _ => (-1 : Int32)))), (ha, .inr (0, [.ref a0, .ref a1, .ref a2, .ref a3, .int (0 : Int32), .long (0 : Int64)])), (ho, .inl (cL, 1, .inr (.inl fo)))] (fun (_ : Unit) => True) (fun (_ : Unit) => some (.int (0 : Int32))) (fun (_ : Unit) => [(ho, .inl (cL, 1, .inr (.inl (vp_updL fo 0 (0 : Int64)))))]) := by
  refine HM.ofG cL_lead 6 (some .int) (by decide +kernel) rfl (Nat.le_of_ble_eq_true rfl) ?_
  intro p e s m below meth c A hA htab hZ hXS B hr hlocks hK hN
  refine g_aload B dL_lead_0 4 rfl ?_
  refine g_iconst (v := (0 : Int32)) B dL_lead_2 (by decide) ?_
  refine g_aload_n B dL_lead_3 0 rfl ?_
  refine g_iload_n B dL_lead_4 1 rfl ?_
  refine g_iload_n B dL_lead_5 2 rfl ?_
  refine g_iload_n B dL_lead_6 3 rfl ?_
  refine g_callW (w2 := (fun (_ : Unit) => [(ho, .inl (cL, 1, .inr (.inl fo)))])) (g_runV (q0 := 0) (ci := 5) B hK rfl rfl (k_lead_vnn l (D := D) (cI := cI) (cL := cL) (cZ := cZ) hb hp ht hg ha hq p0 p1 p2 p3 p4 a0 a1 a2 a3 b1 b2 b3 (by first | assumption | omega) (by first | assumption | omega) (by first | assumption | omega)) (gPw.pre (av := [.ref hb, .int (nI b1), .int (nI b2), .int (nI b3)]) (wc := [(hb, .inr (5, [.ref hp, .ref ht, .ref hg, .ref ha, .ref hq])), (hp, .inr (2, [.ref p0, .ref p1, .ref p2, .ref p3, .ref p4])), (p3, .inl (cI, 24, .inl (fun _ => (-1 : Int32)))), (ha, .inr (0, [.ref a0, .ref a1, .ref a2, .ref a3, .int (0 : Int32), .long (0 : Int64)]))]) hK hN [0, 1, 2, 3] rfl (by decide)) gL_lead_X5_lead rfl rfl kd_X5_lead ⟨by decide, by decide⟩ (st := [.int (0 : Int32), .ref ho]) rfl (Nat.le_of_ble_eq_true rfl) dL_lead_7 ⟨by decide, by decide⟩) hA (fun _ h => h) [0, 1, 2, 3] [4] (wr := [(ho, .inl (cL, 1, .inr (.inl fo)))]) rfl rfl (by decide) (by decide) [0] (by decide) (fun _ => rfl) (fun u hu => ?_)
  refine g_i2l (v := (0 : Int64)) B dL_lead_10 (by decide) ?_
  refine g_last B hK 0 1 rfl rfl 0 rfl (by omega) (by omega) (f2 := (vp_updL fo 0 (0 : Int64))) (rfl) (w2 := [(ho, .inl (cL, 1, .inr (.inl (vp_updL fo 0 (0 : Int64)))))]) rfl (fun _ h => h) dL_lead_11 ?_
  refine g_goto (tgt := 19) B dL_lead_12 (by decide) ?_
  refine g_iconst (v := (0 : Int32)) B dL_lead_19 (by decide) ?_
  exact g_iret_w B hr rfl hlocks () (rfl) (trivial) [0] (by decide) rfl dL_lead_20

set_option maxHeartbeats 4000000 in
set_option maxRecDepth 100000 in
theorem h_bad_v (l : Launch) (hfl : l.stackTraces = false) {D : va_G} {cI cL cZ : ClassId} (hb : Nat) (hp : Nat) (ht : Nat) (hg : Nat) (ha : Nat) (hq : Nat) (p0 : Nat) (p1 : Nat) (p2 : Nat) (p3 : Nat) (p4 : Nat) (a0 : Nat) (a1 : Nat) (a2 : Nat) (a3 : Nat) (b1 : Nat) (b2 : Int32) (ho : Nat) (fo : Nat → Int64) (h1 : b1 < 12) : HM l yL_bad wsL_bad ({ frames := 5, cells := 0, slots := 0, locals := 111 } : Room) D (gTys cI cL cZ) [.ref hb, .int (nI b1), .int b2, .ref ho] [(hb, .inr (5, [.ref hp, .ref ht, .ref hg, .ref ha, .ref hq])), (hp, .inr (2, [.ref p0, .ref p1, .ref p2, .ref p3, .ref p4])), (p4, .inl (cZ, 12, .inl (fun _ => (0 : Int32)))), (ha, .inr (0, [.ref a0, .ref a1, .ref a2, .ref a3, .int (0 : Int32), .long (0 : Int64)])), (ho, .inl (cL, 1, .inr (.inl fo)))] (fun (_ : Unit) => True) (fun (_ : Unit) => some (.int (0 : Int32))) (fun (_ : Unit) => [(ho, .inl (cL, 1, .inr (.inl (vp_updL fo 0 (0 : Int64)))))]) := by
  refine HM.ofG cL_bad 5 (some .int) (by decide +kernel) rfl (Nat.le_of_ble_eq_true rfl) ?_
  intro p e s m below meth c A hA htab hZ hXS B hr hlocks hK hN
  refine g_aload_n B dL_bad_0 3 rfl ?_
  refine g_iconst (v := (0 : Int32)) B dL_bad_1 (by decide) ?_
  refine g_aload_n B dL_bad_2 0 rfl ?_
  refine g_iload_n B dL_bad_3 1 rfl ?_
  refine g_iload_n B dL_bad_4 2 rfl ?_
  refine g_callW (w2 := (fun (_ : Unit) => [(ho, .inl (cL, 1, .inr (.inl fo)))])) (g_runV (q0 := 0) (ci := 5) B hK rfl rfl (k_bad_v l (D := D) (cI := cI) (cL := cL) (cZ := cZ) hb hp ht hg ha hq p0 p1 p2 p3 p4 a0 a1 a2 a3 b1 b2 (by first | assumption | omega)) (gPw.pre (av := [.ref hb, .int (nI b1), .int b2]) (wc := [(hb, .inr (5, [.ref hp, .ref ht, .ref hg, .ref ha, .ref hq])), (hp, .inr (2, [.ref p0, .ref p1, .ref p2, .ref p3, .ref p4])), (p4, .inl (cZ, 12, .inl (fun _ => (0 : Int32)))), (ha, .inr (0, [.ref a0, .ref a1, .ref a2, .ref a3, .int (0 : Int32), .long (0 : Int64)]))]) hK hN [0, 1, 2, 3] rfl (by decide)) gL_bad_X5_bad rfl rfl kd_X5_bad ⟨by decide, by decide⟩ (st := [.int (0 : Int32), .ref ho]) rfl (Nat.le_of_ble_eq_true rfl) dL_bad_5 ⟨by decide, by decide⟩) hA (fun _ h => h) [0, 1, 2, 3] [4] (wr := [(ho, .inl (cL, 1, .inr (.inl fo)))]) rfl rfl (by decide) (by decide) [0] (by decide) (fun _ => rfl) (fun u hu => ?_)
  refine g_i2l (v := (0 : Int64)) B dL_bad_8 (by decide) ?_
  refine g_last B hK 0 1 rfl rfl 0 rfl (by omega) (by omega) (f2 := (vp_updL fo 0 (0 : Int64))) (rfl) (w2 := [(ho, .inl (cL, 1, .inr (.inl (vp_updL fo 0 (0 : Int64)))))]) rfl (fun _ h => h) dL_bad_9 ?_
  refine g_goto (tgt := 17) B dL_bad_10 (by decide) ?_
  refine g_iconst (v := (0 : Int32)) B dL_bad_17 (by decide) ?_
  exact g_iret_w B hr rfl hlocks () (rfl) (trivial) [0] (by decide) rfl dL_bad_18

set_option maxHeartbeats 4000000 in
set_option maxRecDepth 100000 in
theorem h_taste_v (l : Launch) (hfl : l.stackTraces = false) {D : va_G} {cI cL cZ : ClassId} (hb : Nat) (hp : Nat) (ht : Nat) (hg : Nat) (ha : Nat) (hq : Nat) (p0 : Nat) (p1 : Nat) (p2 : Nat) (p3 : Nat) (p4 : Nat) (t0 : Nat) (fp : Nat → Int32) (ts : Int32) (tr : Int32) (tf : Int64) (a0 : Nat) (a1 : Nat) (a2 : Nat) (a3 : Nat) (fa0 : Nat → Int32) (fa1 : Nat → Int32) (fa3 : Nat → Int64) (t : Nat) (ho : Nat) (fo : Nat → Int64) (ht1 : t < 10000) : HM l yL_taste wsL_taste ({ frames := 6, cells := 0, slots := 0, locals := 137 } : Room) D (gTys cI cL cZ) [.ref hb, .int (nI t), .ref ho] [(hb, .inr (5, [.ref hp, .ref ht, .ref hg, .ref ha, .ref hq])), (hp, .inr (2, [.ref p0, .ref p1, .ref p2, .ref p3, .ref p4])), (p0, .inl (cI, 12, .inl (fun _ => (0 : Int32)))), (p1, .inl (cI, 12, .inl (fun _ => (0 : Int32)))), (p2, .inl (cI, 12, .inl (fun _ => (0 : Int32)))), (p3, .inl (cI, 24, .inl (fun _ => (-1 : Int32)))), (p4, .inl (cZ, 12, .inl (fun _ => (0 : Int32)))), (ht, .inr (4, [.ref t0, .int ts, .int tr, .long tf])), (t0, .inl (cI, 30, .inl fp)), (ha, .inr (0, [.ref a0, .ref a1, .ref a2, .ref a3, .int (0 : Int32), .long (0 : Int64)])), (a0, .inl (cI, 41, .inl fa0)), (a1, .inl (cI, 41, .inl fa1)), (a3, .inl (cL, 41, .inr (.inl fa3))), (ho, .inl (cL, 1, .inr (.inl fo)))] (fun (_ : Unit) => True) (fun (_ : Unit) => some (.int (0 : Int32))) (fun (_ : Unit) => [(ho, .inl (cL, 1, .inr (.inl (vp_updL fo 0 (0 : Int64)))))]) := by
  refine HM.ofG cL_taste 4 (some .int) (by decide +kernel) rfl (Nat.le_of_ble_eq_true rfl) ?_
  intro p e s m below meth c A hA htab hZ hXS B hr hlocks hK hN
  refine g_aload_n B dL_taste_0 2 rfl ?_
  refine g_iconst (v := (0 : Int32)) B dL_taste_1 (by decide) ?_
  refine g_aload_n B dL_taste_2 0 rfl ?_
  refine g_iload_n B dL_taste_3 1 rfl ?_
  refine g_callW (w2 := (fun (_ : Unit) => [(ho, .inl (cL, 1, .inr (.inl fo)))])) (g_runV (q0 := 0) (ci := 5) B hK rfl rfl (k_taste_v l (D := D) (cI := cI) (cL := cL) (cZ := cZ) hb hp ht hg ha hq p0 p1 p2 p3 p4 t0 fp ts tr tf a0 a1 a2 a3 fa0 fa1 fa3 t (by first | assumption | omega)) (gPw.pre (av := [.ref hb, .int (nI t)]) (wc := [(hb, .inr (5, [.ref hp, .ref ht, .ref hg, .ref ha, .ref hq])), (hp, .inr (2, [.ref p0, .ref p1, .ref p2, .ref p3, .ref p4])), (p0, .inl (cI, 12, .inl (fun _ => (0 : Int32)))), (p1, .inl (cI, 12, .inl (fun _ => (0 : Int32)))), (p2, .inl (cI, 12, .inl (fun _ => (0 : Int32)))), (p3, .inl (cI, 24, .inl (fun _ => (-1 : Int32)))), (p4, .inl (cZ, 12, .inl (fun _ => (0 : Int32)))), (ht, .inr (4, [.ref t0, .int ts, .int tr, .long tf])), (t0, .inl (cI, 30, .inl fp)), (ha, .inr (0, [.ref a0, .ref a1, .ref a2, .ref a3, .int (0 : Int32), .long (0 : Int64)])), (a0, .inl (cI, 41, .inl fa0)), (a1, .inl (cI, 41, .inl fa1)), (a3, .inl (cL, 41, .inr (.inl fa3)))]) hK hN [0, 1, 2, 3, 4, 5, 6, 7, 8, 9, 10, 11, 12] rfl (by decide)) gL_taste_X5_taste rfl rfl kd_X5_taste ⟨by decide, by decide⟩ (st := [.int (0 : Int32), .ref ho]) rfl (Nat.le_of_ble_eq_true rfl) dL_taste_4 ⟨by decide, by decide⟩) hA (fun _ h => h) [0, 1, 2, 3, 4, 5, 6, 7, 8, 9, 10, 11, 12] [13] (wr := [(ho, .inl (cL, 1, .inr (.inl fo)))]) rfl rfl (by decide) (by decide) [0] (by decide) (fun _ => rfl) (fun u hu => ?_)
  refine g_i2l (v := (0 : Int64)) B dL_taste_7 (by decide) ?_
  refine g_last B hK 0 1 rfl rfl 0 rfl (by omega) (by omega) (f2 := (vp_updL fo 0 (0 : Int64))) (rfl) (w2 := [(ho, .inl (cL, 1, .inr (.inl (vp_updL fo 0 (0 : Int64)))))]) rfl (fun _ h => h) dL_taste_8 ?_
  refine g_goto (tgt := 18) B dL_taste_9 (by decide) ?_
  refine g_iconst (v := (0 : Int32)) B dL_taste_18 (by decide) ?_
  exact g_iret_w B hr rfl hlocks () (rfl) (trivial) [0] (by decide) rfl dL_taste_19

set_option maxHeartbeats 4000000 in
set_option maxRecDepth 100000 in
theorem h_relation_v0 (l : Launch) (hfl : l.stackTraces = false) {D : va_G} {cI cL cZ : ClassId} (hb : Nat) (hp : Nat) (ht : Nat) (hg : Nat) (ha : Nat) (hq : Nat) (r0 : Nat) (r1 : Nat) (r2 : Nat) (b2 : Nat) (b3 : Nat) (ho : Nat) (fo : Nat → Int64) (h0 : ¬ b2 = b3) (k2 : b2 < 4) (k3 : b3 < 4) : HM l yL_relation wsL_relation ({ frames := 2, cells := 0, slots := 0, locals := 46 } : Room) D (gTys cI cL cZ) [.ref hb, .int (0 : Int32), .int (nI b2), .int (nI b3), .ref ho] [(hb, .inr (5, [.ref hp, .ref ht, .ref hg, .ref ha, .ref hq])), (hq, .inr (3, [.ref r0, .ref r1, .ref r2, .int (0 : Int32)])), (r0, .inl (cI, 6, .inl (fun _ => (0 : Int32)))), (r1, .inl (cI, 6, .inl (fun _ => (0 : Int32)))), (r2, .inl (cI, 6, .inl (fun _ => (0 : Int32)))), (ho, .inl (cL, 1, .inr (.inl fo)))] (fun (_ : Unit) => True) (fun (_ : Unit) => some (.int (0 : Int32))) (fun (_ : Unit) => [(ho, .inl (cL, 1, .inr (.inl (vp_updL fo 0 (0 : Int64)))))]) := by
  refine HM.ofG cL_relation 6 (some .int) (by decide +kernel) rfl (Nat.le_of_ble_eq_true rfl) ?_
  intro p e s m below meth c A hA htab hZ hXS B hr hlocks hK hN
  refine g_aload B dL_relation_0 4 rfl ?_
  refine g_iconst (v := (0 : Int32)) B dL_relation_2 (by decide) ?_
  refine g_aload_n B dL_relation_3 0 rfl ?_
  refine g_iload_n B dL_relation_4 1 rfl ?_
  refine g_iload_n B dL_relation_5 2 rfl ?_
  refine g_iload_n B dL_relation_6 3 rfl ?_
  refine g_callW (w2 := (fun (_ : Unit) => [(ho, .inl (cL, 1, .inr (.inl fo)))])) (g_runV (q0 := 0) (ci := 5) B hK rfl rfl (k_relation_v0 l (D := D) (cI := cI) (cL := cL) (cZ := cZ) hb hp ht hg ha hq r0 r1 r2 b2 b3 (by first | assumption | omega) (by first | assumption | omega) (by first | assumption | omega)) (gPw.pre (av := [.ref hb, .int (0 : Int32), .int (nI b2), .int (nI b3)]) (wc := [(hb, .inr (5, [.ref hp, .ref ht, .ref hg, .ref ha, .ref hq])), (hq, .inr (3, [.ref r0, .ref r1, .ref r2, .int (0 : Int32)])), (r0, .inl (cI, 6, .inl (fun _ => (0 : Int32)))), (r1, .inl (cI, 6, .inl (fun _ => (0 : Int32)))), (r2, .inl (cI, 6, .inl (fun _ => (0 : Int32))))]) hK hN [0, 1, 2, 3, 4] rfl (by decide)) gL_relation_X5_relation rfl rfl kd_X5_relation ⟨by decide, by decide⟩ (st := [.int (0 : Int32), .ref ho]) rfl (Nat.le_of_ble_eq_true rfl) dL_relation_7 ⟨by decide, by decide⟩) hA (fun _ h => h) [0, 1, 2, 3, 4] [5] (wr := [(ho, .inl (cL, 1, .inr (.inl fo)))]) rfl rfl (by decide) (by decide) [0] (by decide) (fun _ => rfl) (fun u hu => ?_)
  refine g_i2l (v := (0 : Int64)) B dL_relation_10 (by decide) ?_
  refine g_last B hK 0 1 rfl rfl 0 rfl (by omega) (by omega) (f2 := (vp_updL fo 0 (0 : Int64))) (rfl) (w2 := [(ho, .inl (cL, 1, .inr (.inl (vp_updL fo 0 (0 : Int64)))))]) rfl (fun _ h => h) dL_relation_11 ?_
  refine g_goto (tgt := 27) B dL_relation_12 (by decide) ?_
  refine g_iconst (v := (0 : Int32)) B dL_relation_27 (by decide) ?_
  exact g_iret_w B hr rfl hlocks () (rfl) (trivial) [0] (by decide) rfl dL_relation_28

set_option maxHeartbeats 4000000 in
set_option maxRecDepth 100000 in
theorem h_relation_v1 (l : Launch) (hfl : l.stackTraces = false) {D : va_G} {cI cL cZ : ClassId} (hb : Nat) (hp : Nat) (ht : Nat) (hg : Nat) (ha : Nat) (hq : Nat) (r0 : Nat) (r1 : Nat) (r2 : Nat) (b2 : Nat) (b3 : Int32) (ho : Nat) (fo : Nat → Int64) (k2 : b2 < 4) : HM l yL_relation wsL_relation ({ frames := 2, cells := 0, slots := 0, locals := 46 } : Room) D (gTys cI cL cZ) [.ref hb, .int (1 : Int32), .int (nI b2), .int b3, .ref ho] [(hb, .inr (5, [.ref hp, .ref ht, .ref hg, .ref ha, .ref hq])), (hq, .inr (3, [.ref r0, .ref r1, .ref r2, .int (0 : Int32)])), (r0, .inl (cI, 6, .inl (fun _ => (0 : Int32)))), (r1, .inl (cI, 6, .inl (fun _ => (0 : Int32)))), (r2, .inl (cI, 6, .inl (fun _ => (0 : Int32)))), (ho, .inl (cL, 1, .inr (.inl fo)))] (fun (_ : Unit) => True) (fun (_ : Unit) => some (.int (0 : Int32))) (fun (_ : Unit) => [(ho, .inl (cL, 1, .inr (.inl (vp_updL fo 0 (0 : Int64)))))]) := by
  refine HM.ofG cL_relation 6 (some .int) (by decide +kernel) rfl (Nat.le_of_ble_eq_true rfl) ?_
  intro p e s m below meth c A hA htab hZ hXS B hr hlocks hK hN
  refine g_aload B dL_relation_0 4 rfl ?_
  refine g_iconst (v := (0 : Int32)) B dL_relation_2 (by decide) ?_
  refine g_aload_n B dL_relation_3 0 rfl ?_
  refine g_iload_n B dL_relation_4 1 rfl ?_
  refine g_iload_n B dL_relation_5 2 rfl ?_
  refine g_iload_n B dL_relation_6 3 rfl ?_
  refine g_callW (w2 := (fun (_ : Unit) => [(ho, .inl (cL, 1, .inr (.inl fo)))])) (g_runV (q0 := 0) (ci := 5) B hK rfl rfl (k_relation_v1 l (D := D) (cI := cI) (cL := cL) (cZ := cZ) hb hp ht hg ha hq r0 r1 r2 b2 b3 (by first | assumption | omega)) (gPw.pre (av := [.ref hb, .int (1 : Int32), .int (nI b2), .int b3]) (wc := [(hb, .inr (5, [.ref hp, .ref ht, .ref hg, .ref ha, .ref hq])), (hq, .inr (3, [.ref r0, .ref r1, .ref r2, .int (0 : Int32)])), (r0, .inl (cI, 6, .inl (fun _ => (0 : Int32)))), (r1, .inl (cI, 6, .inl (fun _ => (0 : Int32)))), (r2, .inl (cI, 6, .inl (fun _ => (0 : Int32))))]) hK hN [0, 1, 2, 3, 4] rfl (by decide)) gL_relation_X5_relation rfl rfl kd_X5_relation ⟨by decide, by decide⟩ (st := [.int (0 : Int32), .ref ho]) rfl (Nat.le_of_ble_eq_true rfl) dL_relation_7 ⟨by decide, by decide⟩) hA (fun _ h => h) [0, 1, 2, 3, 4] [5] (wr := [(ho, .inl (cL, 1, .inr (.inl fo)))]) rfl rfl (by decide) (by decide) [0] (by decide) (fun _ => rfl) (fun u hu => ?_)
  refine g_i2l (v := (0 : Int64)) B dL_relation_10 (by decide) ?_
  refine g_last B hK 0 1 rfl rfl 0 rfl (by omega) (by omega) (f2 := (vp_updL fo 0 (0 : Int64))) (rfl) (w2 := [(ho, .inl (cL, 1, .inr (.inl (vp_updL fo 0 (0 : Int64)))))]) rfl (fun _ h => h) dL_relation_11 ?_
  refine g_goto (tgt := 27) B dL_relation_12 (by decide) ?_
  refine g_iconst (v := (0 : Int32)) B dL_relation_27 (by decide) ?_
  exact g_iret_w B hr rfl hlocks () (rfl) (trivial) [0] (by decide) rfl dL_relation_28

set_option maxHeartbeats 4000000 in
set_option maxRecDepth 100000 in
theorem h_wouldDrop_v (l : Launch) (hfl : l.stackTraces = false) {D : va_G} {cI cL cZ : ClassId} (hb : Nat) (hp : Nat) (ht : Nat) (hg : Nat) (ha : Nat) (hq : Nat) (p0 : Nat) (p1 : Nat) (p2 : Nat) (p3 : Nat) (p4 : Nat) (t0 : Nat) (fp : Nat → Int32) (ts : Int32) (tr : Int32) (tf : Int64) (a0 : Nat) (a1 : Nat) (a2 : Nat) (a3 : Nat) (fa0 : Nat → Int32) (fa1 : Nat → Int32) (fa3 : Nat → Int64) (t : Nat) (ho : Nat) (fo : Nat → Int64) (ht1 : t < 10000) : HM l yL_wouldDrop wsL_wouldDrop ({ frames := 5, cells := 0, slots := 0, locals := 118 } : Room) D (gTys cI cL cZ) [.ref hb, .int (nI t), .ref ho] [(hb, .inr (5, [.ref hp, .ref ht, .ref hg, .ref ha, .ref hq])), (hp, .inr (2, [.ref p0, .ref p1, .ref p2, .ref p3, .ref p4])), (p0, .inl (cI, 12, .inl (fun _ => (0 : Int32)))), (p1, .inl (cI, 12, .inl (fun _ => (0 : Int32)))), (p2, .inl (cI, 12, .inl (fun _ => (0 : Int32)))), (p3, .inl (cI, 24, .inl (fun _ => (-1 : Int32)))), (p4, .inl (cZ, 12, .inl (fun _ => (0 : Int32)))), (ht, .inr (4, [.ref t0, .int ts, .int tr, .long tf])), (t0, .inl (cI, 30, .inl fp)), (ha, .inr (0, [.ref a0, .ref a1, .ref a2, .ref a3, .int (0 : Int32), .long (0 : Int64)])), (a0, .inl (cI, 41, .inl fa0)), (a1, .inl (cI, 41, .inl fa1)), (a3, .inl (cL, 41, .inr (.inl fa3))), (ho, .inl (cL, 1, .inr (.inl fo)))] (fun (_ : Unit) => True) (fun (_ : Unit) => some (.int (0 : Int32))) (fun (_ : Unit) => [(ho, .inl (cL, 1, .inr (.inl (vp_updL fo 0 (0 : Int64)))))]) := by
  refine HM.ofG cL_wouldDrop 4 (some .int) (by decide +kernel) rfl (Nat.le_of_ble_eq_true rfl) ?_
  intro p e s m below meth c A hA htab hZ hXS B hr hlocks hK hN
  refine g_aload_n B dL_wouldDrop_0 2 rfl ?_
  refine g_iconst (v := (0 : Int32)) B dL_wouldDrop_1 (by decide) ?_
  refine g_aload_n B dL_wouldDrop_2 0 rfl ?_
  refine g_iload_n B dL_wouldDrop_3 1 rfl ?_
  refine g_callW (w2 := (fun (z9 : (Nat → Int32) × (Nat → Int32) × (Nat → Int32) × (Nat → Int64)) => [(hb, .inr (5, [.ref hp, .ref ht, .ref hg, .ref ha, .ref hq])), (hp, .inr (2, [.ref p0, .ref p1, .ref p2, .ref p3, .ref p4])), (p0, .inl (cI, 12, .inl (fun _ => (0 : Int32)))), (p1, .inl (cI, 12, .inl (fun _ => (0 : Int32)))), (p2, .inl (cI, 12, .inl (fun _ => (0 : Int32)))), (p3, .inl (cI, 24, .inl (fun _ => (-1 : Int32)))), (p4, .inl (cZ, 12, .inl (fun _ => (0 : Int32)))), (ht, .inr (4, [.ref t0, .int (1 : Int32), .int (1 : Int32), .long (2 : Int64)])), (t0, .inl (cI, 30, .inl z9.1)), (ha, .inr (0, [.ref a0, .ref a1, .ref a2, .ref a3, .int (0 : Int32), .long (0 : Int64)])), (a0, .inl (cI, 41, .inl z9.2.1)), (a1, .inl (cI, 41, .inl z9.2.2.1)), (a3, .inl (cL, 41, .inr (.inl z9.2.2.2))), (ho, .inl (cL, 1, .inr (.inl fo)))])) (g_runV (q0 := 0) (ci := 5) B hK rfl rfl (k_wouldDrop_v l (D := D) (cI := cI) (cL := cL) (cZ := cZ) hb hp ht hg ha hq p0 p1 p2 p3 p4 t0 fp ts tr tf a0 a1 a2 a3 fa0 fa1 fa3 t (by first | assumption | omega)) (gPw.pre (av := [.ref hb, .int (nI t)]) (wc := [(hb, .inr (5, [.ref hp, .ref ht, .ref hg, .ref ha, .ref hq])), (hp, .inr (2, [.ref p0, .ref p1, .ref p2, .ref p3, .ref p4])), (p0, .inl (cI, 12, .inl (fun _ => (0 : Int32)))), (p1, .inl (cI, 12, .inl (fun _ => (0 : Int32)))), (p2, .inl (cI, 12, .inl (fun _ => (0 : Int32)))), (p3, .inl (cI, 24, .inl (fun _ => (-1 : Int32)))), (p4, .inl (cZ, 12, .inl (fun _ => (0 : Int32)))), (ht, .inr (4, [.ref t0, .int ts, .int tr, .long tf])), (t0, .inl (cI, 30, .inl fp)), (ha, .inr (0, [.ref a0, .ref a1, .ref a2, .ref a3, .int (0 : Int32), .long (0 : Int64)])), (a0, .inl (cI, 41, .inl fa0)), (a1, .inl (cI, 41, .inl fa1)), (a3, .inl (cL, 41, .inr (.inl fa3)))]) hK hN [0, 1, 2, 3, 4, 5, 6, 7, 8, 9, 10, 11, 12] rfl (by decide)) gL_wouldDrop_X5_wouldDrop rfl rfl kd_X5_wouldDrop ⟨by decide, by decide⟩ (st := [.int (0 : Int32), .ref ho]) rfl (Nat.le_of_ble_eq_true rfl) dL_wouldDrop_4 ⟨by decide, by decide⟩) hA (fun _ h => h) [0, 1, 2, 3, 4, 5, 6, 7, 8, 9, 10, 11, 12] [13] (wr := [(ho, .inl (cL, 1, .inr (.inl fo)))]) rfl rfl (by decide) (by decide) [1, 2, 3, 4, 5, 6, 7, 8, 9, 10, 11, 12, 13, 0] (by decide) (fun _ => rfl) (fun u hu => ?_)
  obtain ⟨fp2_1, fa0b_1, fa1b_1, fa3b_1⟩ := u
  try dsimp only at hu ⊢
  refine g_i2l (v := (0 : Int64)) B dL_wouldDrop_7 (by decide) ?_
  refine g_last B hK 13 1 rfl rfl 0 rfl (by omega) (by omega) (f2 := (vp_updL fo 0 (0 : Int64))) (rfl) (w2 := [(hb, .inr (5, [.ref hp, .ref ht, .ref hg, .ref ha, .ref hq])), (hp, .inr (2, [.ref p0, .ref p1, .ref p2, .ref p3, .ref p4])), (p0, .inl (cI, 12, .inl (fun _ => (0 : Int32)))), (p1, .inl (cI, 12, .inl (fun _ => (0 : Int32)))), (p2, .inl (cI, 12, .inl (fun _ => (0 : Int32)))), (p3, .inl (cI, 24, .inl (fun _ => (-1 : Int32)))), (p4, .inl (cZ, 12, .inl (fun _ => (0 : Int32)))), (ht, .inr (4, [.ref t0, .int (1 : Int32), .int (1 : Int32), .long (2 : Int64)])), (t0, .inl (cI, 30, .inl fp2_1)), (ha, .inr (0, [.ref a0, .ref a1, .ref a2, .ref a3, .int (0 : Int32), .long (0 : Int64)])), (a0, .inl (cI, 41, .inl fa0b_1)), (a1, .inl (cI, 41, .inl fa1b_1)), (a3, .inl (cL, 41, .inr (.inl fa3b_1))), (ho, .inl (cL, 1, .inr (.inl (vp_updL fo 0 (0 : Int64)))))]) rfl (fun _ h => h) dL_wouldDrop_8 ?_
  refine g_goto (tgt := 15) B dL_wouldDrop_9 (by decide) ?_
  refine g_iconst (v := (0 : Int32)) B dL_wouldDrop_15 (by decide) ?_
  exact g_iret_w B hr rfl hlocks () (rfl) (trivial) [13] (by decide) rfl dL_wouldDrop_16

set_option maxHeartbeats 4000000 in
set_option maxRecDepth 100000 in
theorem h_otherwise_v (l : Launch) (hfl : l.stackTraces = false) {D : va_G} {cI cL cZ : ClassId} (hb : Nat) (hp : Nat) (ht : Nat) (hg : Nat) (ha : Nat) (hq : Nat) (p0 : Nat) (p1 : Nat) (p2 : Nat) (p3 : Nat) (p4 : Nat) (a0 : Nat) (a1 : Nat) (a2 : Nat) (a3 : Nat) (b1 : Nat) (b2 : Nat) (b3 : Nat) (ho : Nat) (fo : Nat → Int64) (h1 : b1 < 12) (h2 : b2 < 3) (h3 : b3 < 10) : HM l yL_otherwise wsL_otherwise ({ frames := 3, cells := 0, slots := 0, locals := 68 } : Room) D (gTys cI cL cZ) [.ref hb, .int (nI b1), .int (nI b2), .int (nI b3), .ref ho] [(hb, .inr (5, [.ref hp, .ref ht, .ref hg, .ref ha, .ref hq])), (hp, .inr (2, [.ref p0, .ref p1, .ref p2, .ref p3, .ref p4])), (p0, .inl (cI, 12, .inl (fun _ => (0 : Int32)))), (p1, .inl (cI, 12, .inl (fun _ => (0 : Int32)))), (p2, .inl (cI, 12, .inl (fun _ => (0 : Int32)))), (ha, .inr (0, [.ref a0, .ref a1, .ref a2, .ref a3, .int (0 : Int32), .long (0 : Int64)])), (ho, .inl (cL, 1, .inr (.inl fo)))] (fun (_ : Unit) => True) (fun (_ : Unit) => some (.int (0 : Int32))) (fun (_ : Unit) => [(ho, .inl (cL, 1, .inr (.inl (vp_updL fo 0 (0 : Int64)))))]) := by
  refine HM.ofG cL_otherwise 6 (some .int) (by decide +kernel) rfl (Nat.le_of_ble_eq_true rfl) ?_
  intro p e s m below meth c A hA htab hZ hXS B hr hlocks hK hN
  refine g_aload B dL_otherwise_0 4 rfl ?_
  refine g_iconst (v := (0 : Int32)) B dL_otherwise_2 (by decide) ?_
  refine g_aload_n B dL_otherwise_3 0 rfl ?_
  refine g_iload_n B dL_otherwise_4 1 rfl ?_
  refine g_iload_n B dL_otherwise_5 2 rfl ?_
  refine g_iload_n B dL_otherwise_6 3 rfl ?_
  refine g_callW (w2 := (fun (_ : Unit) => [(ho, .inl (cL, 1, .inr (.inl fo)))])) (g_runV (q0 := 0) (ci := 5) B hK rfl rfl (k_otherwise_v l (D := D) (cI := cI) (cL := cL) (cZ := cZ) hb hp ht hg ha hq p0 p1 p2 p3 p4 a0 a1 a2 a3 b1 b2 b3 (by first | assumption | omega) (by first | assumption | omega) (by first | assumption | omega)) (gPw.pre (av := [.ref hb, .int (nI b1), .int (nI b2), .int (nI b3)]) (wc := [(hb, .inr (5, [.ref hp, .ref ht, .ref hg, .ref ha, .ref hq])), (hp, .inr (2, [.ref p0, .ref p1, .ref p2, .ref p3, .ref p4])), (p0, .inl (cI, 12, .inl (fun _ => (0 : Int32)))), (p1, .inl (cI, 12, .inl (fun _ => (0 : Int32)))), (p2, .inl (cI, 12, .inl (fun _ => (0 : Int32)))), (ha, .inr (0, [.ref a0, .ref a1, .ref a2, .ref a3, .int (0 : Int32), .long (0 : Int64)]))]) hK hN [0, 1, 2, 3, 4, 5] rfl (by decide)) gL_otherwise_X5_otherwise rfl rfl kd_X5_otherwise ⟨by decide, by decide⟩ (st := [.int (0 : Int32), .ref ho]) rfl (Nat.le_of_ble_eq_true rfl) dL_otherwise_7 ⟨by decide, by decide⟩) hA (fun _ h => h) [0, 1, 2, 3, 4, 5] [6] (wr := [(ho, .inl (cL, 1, .inr (.inl fo)))]) rfl rfl (by decide) (by decide) [0] (by decide) (fun _ => rfl) (fun u hu => ?_)
  refine g_i2l (v := (0 : Int64)) B dL_otherwise_10 (by decide) ?_
  refine g_last B hK 0 1 rfl rfl 0 rfl (by omega) (by omega) (f2 := (vp_updL fo 0 (0 : Int64))) (rfl) (w2 := [(ho, .inl (cL, 1, .inr (.inl (vp_updL fo 0 (0 : Int64)))))]) rfl (fun _ h => h) dL_otherwise_11 ?_
  refine g_goto (tgt := 23) B dL_otherwise_12 (by decide) ?_
  refine g_iconst (v := (0 : Int32)) B dL_otherwise_23 (by decide) ?_
  exact g_iret_w B hr rfl hlocks () (rfl) (trivial) [0] (by decide) rfl dL_otherwise_24

set_option maxHeartbeats 4000000 in
set_option maxRecDepth 100000 in
theorem h_run_v (l : Launch) (hfl : l.stackTraces = false) {D : va_G} {cI cL cZ : ClassId} (hb : Nat) (hp : Nat) (ht : Nat) (hg : Nat) (ha : Nat) (hq : Nat) (p0 : Nat) (p1 : Nat) (p2 : Nat) (p3 : Nat) (p4 : Nat) (t0 : Nat) (fp : Nat → Int32) (ts : Int32) (tr : Int32) (tf : Int64) (t : Nat) (ho : Nat) (fo : Nat → Int64) (ht1 : t < 10000) : HM l yL_run wsL_run ({ frames := 5, cells := 0, slots := 0, locals := 111 } : Room) D (gTys cI cL cZ) [.ref hb, .int (nI t), .ref ho] [(hb, .inr (5, [.ref hp, .ref ht, .ref hg, .ref ha, .ref hq])), (hp, .inr (2, [.ref p0, .ref p1, .ref p2, .ref p3, .ref p4])), (p0, .inl (cI, 12, .inl (fun _ => (0 : Int32)))), (p1, .inl (cI, 12, .inl (fun _ => (0 : Int32)))), (p2, .inl (cI, 12, .inl (fun _ => (0 : Int32)))), (p3, .inl (cI, 24, .inl (fun _ => (-1 : Int32)))), (p4, .inl (cZ, 12, .inl (fun _ => (0 : Int32)))), (ht, .inr (4, [.ref t0, .int ts, .int tr, .long tf])), (t0, .inl (cI, 30, .inl fp)), (ho, .inl (cL, 1, .inr (.inl fo)))] (fun (_ : Unit) => True) (fun (_ : Unit) => some (.int (0 : Int32))) (fun (_ : Unit) => [(ho, .inl (cL, 1, .inr (.inl (vp_updL fo 0 (1 : Int64)))))]) := by
  refine HM.ofG cL_run 4 (some .int) (by decide +kernel) rfl (Nat.le_of_ble_eq_true rfl) ?_
  intro p e s m below meth c A hA htab hZ hXS B hr hlocks hK hN
  refine g_aload_n B dL_run_0 2 rfl ?_
  refine g_iconst (v := (0 : Int32)) B dL_run_1 (by decide) ?_
  refine g_aload_n B dL_run_2 0 rfl ?_
  refine g_iload_n B dL_run_3 1 rfl ?_
  refine g_callW (w2 := (fun (fp2_1 : Nat → Int32) => [(hb, .inr (5, [.ref hp, .ref ht, .ref hg, .ref ha, .ref hq])), (hp, .inr (2, [.ref p0, .ref p1, .ref p2, .ref p3, .ref p4])), (p0, .inl (cI, 12, .inl (fun _ => (0 : Int32)))), (p1, .inl (cI, 12, .inl (fun _ => (0 : Int32)))), (p2, .inl (cI, 12, .inl (fun _ => (0 : Int32)))), (p3, .inl (cI, 24, .inl (fun _ => (-1 : Int32)))), (p4, .inl (cZ, 12, .inl (fun _ => (0 : Int32)))), (ht, .inr (4, [.ref t0, .int (1 : Int32), .int (1 : Int32), .long (2 : Int64)])), (t0, .inl (cI, 30, .inl fp2_1)), (ho, .inl (cL, 1, .inr (.inl fo)))])) (g_runV (q0 := 0) (ci := 5) B hK rfl rfl (k_run_v l (D := D) (cI := cI) (cL := cL) (cZ := cZ) hb hp ht hg ha hq p0 p1 p2 p3 p4 t0 fp ts tr tf t (by first | assumption | omega)) (gPw.pre (av := [.ref hb, .int (nI t)]) (wc := [(hb, .inr (5, [.ref hp, .ref ht, .ref hg, .ref ha, .ref hq])), (hp, .inr (2, [.ref p0, .ref p1, .ref p2, .ref p3, .ref p4])), (p0, .inl (cI, 12, .inl (fun _ => (0 : Int32)))), (p1, .inl (cI, 12, .inl (fun _ => (0 : Int32)))), (p2, .inl (cI, 12, .inl (fun _ => (0 : Int32)))), (p3, .inl (cI, 24, .inl (fun _ => (-1 : Int32)))), (p4, .inl (cZ, 12, .inl (fun _ => (0 : Int32)))), (ht, .inr (4, [.ref t0, .int ts, .int tr, .long tf])), (t0, .inl (cI, 30, .inl fp))]) hK hN [0, 1, 2, 3, 4, 5, 6, 7, 8] rfl (by decide)) gL_run_X5_run rfl rfl kd_X5_run ⟨by decide, by decide⟩ (st := [.int (0 : Int32), .ref ho]) rfl (Nat.le_of_ble_eq_true rfl) dL_run_4 ⟨by decide, by decide⟩) hA (fun _ h => h) [0, 1, 2, 3, 4, 5, 6, 7, 8] [9] (wr := [(ho, .inl (cL, 1, .inr (.inl fo)))]) rfl rfl (by decide) (by decide) [1, 2, 3, 4, 5, 6, 7, 8, 9, 0] (by decide) (fun _ => rfl) (fun u hu => ?_)
  obtain ⟨fp2_1, e9⟩ : ∃ z, z = u := ⟨_, rfl⟩; subst e9
  try dsimp only at hu ⊢
  refine g_i2l (v := (1 : Int64)) B dL_run_7 (by decide) ?_
  refine g_last B hK 9 1 rfl rfl 0 rfl (by omega) (by omega) (f2 := (vp_updL fo 0 (1 : Int64))) (rfl) (w2 := [(hb, .inr (5, [.ref hp, .ref ht, .ref hg, .ref ha, .ref hq])), (hp, .inr (2, [.ref p0, .ref p1, .ref p2, .ref p3, .ref p4])), (p0, .inl (cI, 12, .inl (fun _ => (0 : Int32)))), (p1, .inl (cI, 12, .inl (fun _ => (0 : Int32)))), (p2, .inl (cI, 12, .inl (fun _ => (0 : Int32)))), (p3, .inl (cI, 24, .inl (fun _ => (-1 : Int32)))), (p4, .inl (cZ, 12, .inl (fun _ => (0 : Int32)))), (ht, .inr (4, [.ref t0, .int (1 : Int32), .int (1 : Int32), .long (2 : Int64)])), (t0, .inl (cI, 30, .inl fp2_1)), (ho, .inl (cL, 1, .inr (.inl (vp_updL fo 0 (1 : Int64)))))]) rfl (fun _ h => h) dL_run_8 ?_
  refine g_goto (tgt := 15) B dL_run_9 (by decide) ?_
  refine g_iconst (v := (0 : Int32)) B dL_run_15 (by decide) ?_
  exact g_iret_w B hr rfl hlocks () (rfl) (trivial) [9] (by decide) rfl dL_run_16

set_option maxHeartbeats 4000000 in
set_option maxRecDepth 100000 in
theorem h_covers_v (l : Launch) (hfl : l.stackTraces = false) {D : va_G} {cI cL cZ : ClassId} (hb : Nat) (hp : Nat) (ht : Nat) (hg : Nat) (ha : Nat) (hq : Nat) (p0 : Nat) (p1 : Nat) (p2 : Nat) (p3 : Nat) (p4 : Nat) (t0 : Nat) (fp : Nat → Int32) (ts : Int32) (tr : Int32) (tf : Int64) (t : Nat) (ho : Nat) (fo : Nat → Int64) (ht1 : t < 10000) : HM l yL_covers wsL_covers ({ frames := 4, cells := 0, slots := 0, locals := 90 } : Room) D (gTys cI cL cZ) [.ref hb, .int (nI t), .ref ho] [(hb, .inr (5, [.ref hp, .ref ht, .ref hg, .ref ha, .ref hq])), (hp, .inr (2, [.ref p0, .ref p1, .ref p2, .ref p3, .ref p4])), (p0, .inl (cI, 12, .inl (fun _ => (0 : Int32)))), (p1, .inl (cI, 12, .inl (fun _ => (0 : Int32)))), (p2, .inl (cI, 12, .inl (fun _ => (0 : Int32)))), (p3, .inl (cI, 24, .inl (fun _ => (-1 : Int32)))), (p4, .inl (cZ, 12, .inl (fun _ => (0 : Int32)))), (ht, .inr (4, [.ref t0, .int ts, .int tr, .long tf])), (t0, .inl (cI, 30, .inl fp)), (ho, .inl (cL, 1, .inr (.inl fo)))] (fun (_ : Unit) => True) (fun (_ : Unit) => some (.int (0 : Int32))) (fun (_ : Unit) => [(ho, .inl (cL, 1, .inr (.inl (vp_updL fo 0 (1 : Int64)))))]) := by
  refine HM.ofG cL_covers 4 (some .int) (by decide +kernel) rfl (Nat.le_of_ble_eq_true rfl) ?_
  intro p e s m below meth c A hA htab hZ hXS B hr hlocks hK hN
  refine g_aload_n B dL_covers_0 2 rfl ?_
  refine g_iconst (v := (0 : Int32)) B dL_covers_1 (by decide) ?_
  refine g_aload_n B dL_covers_2 0 rfl ?_
  refine g_iload_n B dL_covers_3 1 rfl ?_
  refine g_callW (w2 := (fun (fp2_1 : Nat → Int32) => [(hb, .inr (5, [.ref hp, .ref ht, .ref hg, .ref ha, .ref hq])), (hp, .inr (2, [.ref p0, .ref p1, .ref p2, .ref p3, .ref p4])), (p0, .inl (cI, 12, .inl (fun _ => (0 : Int32)))), (p1, .inl (cI, 12, .inl (fun _ => (0 : Int32)))), (p2, .inl (cI, 12, .inl (fun _ => (0 : Int32)))), (p3, .inl (cI, 24, .inl (fun _ => (-1 : Int32)))), (p4, .inl (cZ, 12, .inl (fun _ => (0 : Int32)))), (ht, .inr (4, [.ref t0, .int (1 : Int32), .int (1 : Int32), .long (2 : Int64)])), (t0, .inl (cI, 30, .inl fp2_1)), (ho, .inl (cL, 1, .inr (.inl fo)))])) (g_runV (q0 := 0) (ci := 5) B hK rfl rfl (k_covers_v l (D := D) (cI := cI) (cL := cL) (cZ := cZ) hb hp ht hg ha hq p0 p1 p2 p3 p4 t0 fp ts tr tf t (by first | assumption | omega)) (gPw.pre (av := [.ref hb, .int (nI t)]) (wc := [(hb, .inr (5, [.ref hp, .ref ht, .ref hg, .ref ha, .ref hq])), (hp, .inr (2, [.ref p0, .ref p1, .ref p2, .ref p3, .ref p4])), (p0, .inl (cI, 12, .inl (fun _ => (0 : Int32)))), (p1, .inl (cI, 12, .inl (fun _ => (0 : Int32)))), (p2, .inl (cI, 12, .inl (fun _ => (0 : Int32)))), (p3, .inl (cI, 24, .inl (fun _ => (-1 : Int32)))), (p4, .inl (cZ, 12, .inl (fun _ => (0 : Int32)))), (ht, .inr (4, [.ref t0, .int ts, .int tr, .long tf])), (t0, .inl (cI, 30, .inl fp))]) hK hN [0, 1, 2, 3, 4, 5, 6, 7, 8] rfl (by decide)) gL_covers_X5_covers rfl rfl kd_X5_covers ⟨by decide, by decide⟩ (st := [.int (0 : Int32), .ref ho]) rfl (Nat.le_of_ble_eq_true rfl) dL_covers_4 ⟨by decide, by decide⟩) hA (fun _ h => h) [0, 1, 2, 3, 4, 5, 6, 7, 8] [9] (wr := [(ho, .inl (cL, 1, .inr (.inl fo)))]) rfl rfl (by decide) (by decide) [1, 2, 3, 4, 5, 6, 7, 8, 9, 0] (by decide) (fun _ => rfl) (fun u hu => ?_)
  obtain ⟨fp2_1, e9⟩ : ∃ z, z = u := ⟨_, rfl⟩; subst e9
  try dsimp only at hu ⊢
  refine g_i2l (v := (1 : Int64)) B dL_covers_7 (by decide) ?_
  refine g_last B hK 9 1 rfl rfl 0 rfl (by omega) (by omega) (f2 := (vp_updL fo 0 (1 : Int64))) (rfl) (w2 := [(hb, .inr (5, [.ref hp, .ref ht, .ref hg, .ref ha, .ref hq])), (hp, .inr (2, [.ref p0, .ref p1, .ref p2, .ref p3, .ref p4])), (p0, .inl (cI, 12, .inl (fun _ => (0 : Int32)))), (p1, .inl (cI, 12, .inl (fun _ => (0 : Int32)))), (p2, .inl (cI, 12, .inl (fun _ => (0 : Int32)))), (p3, .inl (cI, 24, .inl (fun _ => (-1 : Int32)))), (p4, .inl (cZ, 12, .inl (fun _ => (0 : Int32)))), (ht, .inr (4, [.ref t0, .int (1 : Int32), .int (1 : Int32), .long (2 : Int64)])), (t0, .inl (cI, 30, .inl fp2_1)), (ho, .inl (cL, 1, .inr (.inl (vp_updL fo 0 (1 : Int64)))))]) rfl (fun _ h => h) dL_covers_8 ?_
  refine g_goto (tgt := 15) B dL_covers_9 (by decide) ?_
  refine g_iconst (v := (0 : Int32)) B dL_covers_15 (by decide) ?_
  exact g_iret_w B hr rfl hlocks () (rfl) (trivial) [9] (by decide) rfl dL_covers_16

set_option maxHeartbeats 4000000 in
set_option maxRecDepth 100000 in
theorem h_edge_v (l : Launch) (hfl : l.stackTraces = false) {D : va_G} {cI cL cZ : ClassId} (hb : Nat) (hp : Nat) (ht : Nat) (hg : Nat) (ha : Nat) (hq : Nat) (p0 : Nat) (p1 : Nat) (p2 : Nat) (p3 : Nat) (p4 : Nat) (t0 : Nat) (fp : Nat → Int32) (ts : Int32) (tr : Int32) (tf : Int64) (t : Nat) (ho : Nat) (fo : Nat → Int64) (ht1 : t < 10000) : HM l yL_edge wsL_edge ({ frames := 4, cells := 0, slots := 0, locals := 91 } : Room) D (gTys cI cL cZ) [.ref hb, .int (nI t), .int (0 : Int32), .ref ho] [(hb, .inr (5, [.ref hp, .ref ht, .ref hg, .ref ha, .ref hq])), (hp, .inr (2, [.ref p0, .ref p1, .ref p2, .ref p3, .ref p4])), (p0, .inl (cI, 12, .inl (fun _ => (0 : Int32)))), (p1, .inl (cI, 12, .inl (fun _ => (0 : Int32)))), (p2, .inl (cI, 12, .inl (fun _ => (0 : Int32)))), (p3, .inl (cI, 24, .inl (fun _ => (-1 : Int32)))), (p4, .inl (cZ, 12, .inl (fun _ => (0 : Int32)))), (ht, .inr (4, [.ref t0, .int ts, .int tr, .long tf])), (t0, .inl (cI, 30, .inl fp)), (ho, .inl (cL, 1, .inr (.inl fo)))] (fun (_ : Unit) => True) (fun (_ : Unit) => some (.int (0 : Int32))) (fun (_ : Unit) => [(ho, .inl (cL, 1, .inr (.inl (vp_updL fo 0 (1 : Int64)))))]) := by
  refine HM.ofG cL_edge 5 (some .int) (by decide +kernel) rfl (Nat.le_of_ble_eq_true rfl) ?_
  intro p e s m below meth c A hA htab hZ hXS B hr hlocks hK hN
  refine g_aload_n B dL_edge_0 3 rfl ?_
  refine g_iconst (v := (0 : Int32)) B dL_edge_1 (by decide) ?_
  refine g_aload_n B dL_edge_2 0 rfl ?_
  refine g_iload_n B dL_edge_3 1 rfl ?_
  refine g_iload_n B dL_edge_4 2 rfl ?_
  refine g_callW (w2 := (fun (_ : Unit) => [(ho, .inl (cL, 1, .inr (.inl fo)))])) (g_runV (q0 := 0) (ci := 5) B hK rfl rfl (k_edge_v l (D := D) (cI := cI) (cL := cL) (cZ := cZ) hb hp ht hg ha hq p0 p1 p2 p3 p4 t0 fp ts tr tf t (by first | assumption | omega)) (gPw.pre (av := [.ref hb, .int (nI t), .int (0 : Int32)]) (wc := [(hb, .inr (5, [.ref hp, .ref ht, .ref hg, .ref ha, .ref hq])), (hp, .inr (2, [.ref p0, .ref p1, .ref p2, .ref p3, .ref p4])), (p0, .inl (cI, 12, .inl (fun _ => (0 : Int32)))), (p1, .inl (cI, 12, .inl (fun _ => (0 : Int32)))), (p2, .inl (cI, 12, .inl (fun _ => (0 : Int32)))), (p3, .inl (cI, 24, .inl (fun _ => (-1 : Int32)))), (p4, .inl (cZ, 12, .inl (fun _ => (0 : Int32)))), (ht, .inr (4, [.ref t0, .int ts, .int tr, .long tf])), (t0, .inl (cI, 30, .inl fp))]) hK hN [0, 1, 2, 3, 4, 5, 6, 7, 8] rfl (by decide)) gL_edge_X5_edge rfl rfl kd_X5_edge ⟨by decide, by decide⟩ (st := [.int (0 : Int32), .ref ho]) rfl (Nat.le_of_ble_eq_true rfl) dL_edge_5 ⟨by decide, by decide⟩) hA (fun _ h => h) [0, 1, 2, 3, 4, 5, 6, 7, 8] [9] (wr := [(ho, .inl (cL, 1, .inr (.inl fo)))]) rfl rfl (by decide) (by decide) [0] (by decide) (fun _ => rfl) (fun u hu => ?_)
  refine g_i2l (v := (1 : Int64)) B dL_edge_8 (by decide) ?_
  refine g_last B hK 0 1 rfl rfl 0 rfl (by omega) (by omega) (f2 := (vp_updL fo 0 (1 : Int64))) (rfl) (w2 := [(ho, .inl (cL, 1, .inr (.inl (vp_updL fo 0 (1 : Int64)))))]) rfl (fun _ h => h) dL_edge_9 ?_
  refine g_goto (tgt := 21) B dL_edge_10 (by decide) ?_
  refine g_iconst (v := (0 : Int32)) B dL_edge_21 (by decide) ?_
  exact g_iret_w B hr rfl hlocks () (rfl) (trivial) [0] (by decide) rfl dL_edge_22

set_option maxHeartbeats 4000000 in
set_option maxRecDepth 100000 in
theorem h_draw_v (l : Launch) (hfl : l.stackTraces = false) {D : va_G} {cI cL cZ : ClassId} (hb : Nat) (hp : Nat) (ht : Nat) (hg : Nat) (ha : Nat) (hq : Nat) (g0 : Nat) (g1 : Nat) (g2 : Nat) (b1 : Nat) (ho : Nat) (fo : Nat → Int64) (h1 : b1 < 10000) : HM l yL_draw wsL_draw ({ frames := 1, cells := 0, slots := 0, locals := 22 } : Room) D (gTys cI cL cZ) [.ref hb, .int (nI b1), .ref ho] [(hb, .inr (5, [.ref hp, .ref ht, .ref hg, .ref ha, .ref hq])), (hg, .inr (1, [.ref g0, .ref g1, .ref g2, .int (1 : Int32)])), (ho, .inl (cL, 1, .inr (.inl fo)))] (fun (_ : Unit) => True) (fun (_ : Unit) => some (.int (0 : Int32))) (fun (_ : Unit) => [(ho, .inl (cL, 1, .inr (.inl (vp_updL fo 0 (1 : Int64)))))]) := by
  refine HM.ofG cL_draw 4 (some .int) (by decide +kernel) rfl (Nat.le_of_ble_eq_true rfl) ?_
  intro p e s m below meth c A hA htab hZ hXS B hr hlocks hK hN
  refine g_aload_n B dL_draw_0 2 rfl ?_
  refine g_iconst (v := (0 : Int32)) B dL_draw_1 (by decide) ?_
  refine g_aload_n B dL_draw_2 0 rfl ?_
  refine g_iload_n B dL_draw_3 1 rfl ?_
  refine g_callW (w2 := (fun (_ : Unit) => [(ho, .inl (cL, 1, .inr (.inl fo)))])) (g_runV (q0 := 0) (ci := 5) B hK rfl rfl (k_draw_v l (D := D) (cI := cI) (cL := cL) (cZ := cZ) hb hp ht hg ha hq g0 g1 g2 b1 (by first | assumption | omega)) (gPw.pre (av := [.ref hb, .int (nI b1)]) (wc := [(hb, .inr (5, [.ref hp, .ref ht, .ref hg, .ref ha, .ref hq])), (hg, .inr (1, [.ref g0, .ref g1, .ref g2, .int (1 : Int32)]))]) hK hN [0, 1] rfl (by decide)) gL_draw_X5_draw rfl rfl kd_X5_draw ⟨by decide, by decide⟩ (st := [.int (0 : Int32), .ref ho]) rfl (Nat.le_of_ble_eq_true rfl) dL_draw_4 ⟨by decide, by decide⟩) hA (fun _ h => h) [0, 1] [2] (wr := [(ho, .inl (cL, 1, .inr (.inl fo)))]) rfl rfl (by decide) (by decide) [0] (by decide) (fun _ => rfl) (fun u hu => ?_)
  refine g_i2l (v := (1 : Int64)) B dL_draw_7 (by decide) ?_
  refine g_last B hK 0 1 rfl rfl 0 rfl (by omega) (by omega) (f2 := (vp_updL fo 0 (1 : Int64))) (rfl) (w2 := [(ho, .inl (cL, 1, .inr (.inl (vp_updL fo 0 (1 : Int64)))))]) rfl (fun _ h => h) dL_draw_8 ?_
  refine g_goto (tgt := 15) B dL_draw_9 (by decide) ?_
  refine g_iconst (v := (0 : Int32)) B dL_draw_15 (by decide) ?_
  exact g_iret_w B hr rfl hlocks () (rfl) (trivial) [0] (by decide) rfl dL_draw_16

set_option maxHeartbeats 4000000 in
set_option maxRecDepth 100000 in
theorem h_ahead_v (l : Launch) (hfl : l.stackTraces = false) {D : va_G} {cI cL cZ : ClassId} (hb : Nat) (hp : Nat) (ht : Nat) (hg : Nat) (ha : Nat) (hq : Nat) (p0 : Nat) (p1 : Nat) (p2 : Nat) (p3 : Nat) (p4 : Nat) (t0 : Nat) (fp : Nat → Int32) (ts : Int32) (tr : Int32) (tf : Int64) (g0 : Nat) (g1 : Nat) (g2 : Nat) (sd : Nat) (a9 : Nat) (ho : Nat) (fo : Nat → Int64) (hs : sd < 10000) (h1 : 0 < a9) (h2 : a9 ≤ 50) : HM l yL_ahead wsL_ahead ({ frames := 5, cells := 0, slots := 0, locals := 115 } : Room) D (gTys cI cL cZ) [.ref hb, .int (nI a9), .ref ho] [(hb, .inr (5, [.ref hp, .ref ht, .ref hg, .ref ha, .ref hq])), (hp, .inr (2, [.ref p0, .ref p1, .ref p2, .ref p3, .ref p4])), (p0, .inl (cI, 12, .inl (fun _ => (0 : Int32)))), (p1, .inl (cI, 12, .inl (fun _ => (0 : Int32)))), (p2, .inl (cI, 12, .inl (fun _ => (0 : Int32)))), (p3, .inl (cI, 24, .inl (fun _ => (-1 : Int32)))), (p4, .inl (cZ, 12, .inl (fun _ => (0 : Int32)))), (ht, .inr (4, [.ref t0, .int ts, .int tr, .long tf])), (t0, .inl (cI, 30, .inl fp)), (hg, .inr (1, [.ref g0, .ref g1, .ref g2, .int (nI sd)])), (g0, .inl (cI, 4, .inl (fun _ => (1 : Int32)))), (g1, .inl (cI, 4, .inl (fun _ => (1 : Int32)))), (g2, .inl (cI, 4, .inl (fun _ => (1 : Int32)))), (ho, .inl (cL, 1, .inr (.inl fo)))] (fun (_ : Unit) => True) (fun (_ : Unit) => some (.int (0 : Int32))) (fun (_ : Unit) => [(ho, .inl (cL, 1, .inr (.inl (vp_updL fo 0 (1 : Int64)))))]) := by
  refine HM.ofG cL_ahead 4 (some .int) (by decide +kernel) rfl (Nat.le_of_ble_eq_true rfl) ?_
  intro p e s m below meth c A hA htab hZ hXS B hr hlocks hK hN
  refine g_aload_n B dL_ahead_0 2 rfl ?_
  refine g_iconst (v := (0 : Int32)) B dL_ahead_1 (by decide) ?_
  refine g_aload_n B dL_ahead_2 0 rfl ?_
  refine g_iload_n B dL_ahead_3 1 rfl ?_
  refine g_callW (w2 := (fun (z9 : (Nat → Int32) × Int32 × Int32 × Int64) => [(hb, .inr (5, [.ref hp, .ref ht, .ref hg, .ref ha, .ref hq])), (hp, .inr (2, [.ref p0, .ref p1, .ref p2, .ref p3, .ref p4])), (p0, .inl (cI, 12, .inl (fun _ => (0 : Int32)))), (p1, .inl (cI, 12, .inl (fun _ => (0 : Int32)))), (p2, .inl (cI, 12, .inl (fun _ => (0 : Int32)))), (p3, .inl (cI, 24, .inl (fun _ => (-1 : Int32)))), (p4, .inl (cZ, 12, .inl (fun _ => (0 : Int32)))), (ht, .inr (4, [.ref t0, .int z9.2.1, .int z9.2.2.1, .long z9.2.2.2])), (t0, .inl (cI, 30, .inl z9.1)), (hg, .inr (1, [.ref g0, .ref g1, .ref g2, .int (nI sd)])), (g0, .inl (cI, 4, .inl (fun _ => (1 : Int32)))), (g1, .inl (cI, 4, .inl (fun _ => (1 : Int32)))), (g2, .inl (cI, 4, .inl (fun _ => (1 : Int32)))), (ho, .inl (cL, 1, .inr (.inl fo)))])) (g_runV (q0 := 0) (ci := 5) B hK rfl rfl (k_ahead_v l (D := D) (cI := cI) (cL := cL) (cZ := cZ) hb hp ht hg ha hq p0 p1 p2 p3 p4 t0 fp ts tr tf g0 g1 g2 sd a9 (by first | assumption | omega) (by first | assumption | omega) (by first | assumption | omega)) (gPw.pre (av := [.ref hb, .int (nI a9)]) (wc := [(hb, .inr (5, [.ref hp, .ref ht, .ref hg, .ref ha, .ref hq])), (hp, .inr (2, [.ref p0, .ref p1, .ref p2, .ref p3, .ref p4])), (p0, .inl (cI, 12, .inl (fun _ => (0 : Int32)))), (p1, .inl (cI, 12, .inl (fun _ => (0 : Int32)))), (p2, .inl (cI, 12, .inl (fun _ => (0 : Int32)))), (p3, .inl (cI, 24, .inl (fun _ => (-1 : Int32)))), (p4, .inl (cZ, 12, .inl (fun _ => (0 : Int32)))), (ht, .inr (4, [.ref t0, .int ts, .int tr, .long tf])), (t0, .inl (cI, 30, .inl fp)), (hg, .inr (1, [.ref g0, .ref g1, .ref g2, .int (nI sd)])), (g0, .inl (cI, 4, .inl (fun _ => (1 : Int32)))), (g1, .inl (cI, 4, .inl (fun _ => (1 : Int32)))), (g2, .inl (cI, 4, .inl (fun _ => (1 : Int32))))]) hK hN [0, 1, 2, 3, 4, 5, 6, 7, 8, 9, 10, 11, 12] rfl (by decide)) gL_ahead_X5_ahead rfl rfl kd_X5_ahead ⟨by decide, by decide⟩ (st := [.int (0 : Int32), .ref ho]) rfl (Nat.le_of_ble_eq_true rfl) dL_ahead_4 ⟨by decide, by decide⟩) hA (fun _ h => h) [0, 1, 2, 3, 4, 5, 6, 7, 8, 9, 10, 11, 12] [13] (wr := [(ho, .inl (cL, 1, .inr (.inl fo)))]) rfl rfl (by decide) (by decide) [1, 2, 3, 4, 5, 6, 7, 8, 9, 10, 11, 12, 13, 0] (by decide) (fun _ => rfl) (fun u hu => ?_)
  obtain ⟨fp1_1, ts1_1, tr1_1, tf1_1⟩ := u
  try dsimp only at hu ⊢
  refine g_i2l (v := (1 : Int64)) B dL_ahead_7 (by decide) ?_
  refine g_last B hK 13 1 rfl rfl 0 rfl (by omega) (by omega) (f2 := (vp_updL fo 0 (1 : Int64))) (rfl) (w2 := [(hb, .inr (5, [.ref hp, .ref ht, .ref hg, .ref ha, .ref hq])), (hp, .inr (2, [.ref p0, .ref p1, .ref p2, .ref p3, .ref p4])), (p0, .inl (cI, 12, .inl (fun _ => (0 : Int32)))), (p1, .inl (cI, 12, .inl (fun _ => (0 : Int32)))), (p2, .inl (cI, 12, .inl (fun _ => (0 : Int32)))), (p3, .inl (cI, 24, .inl (fun _ => (-1 : Int32)))), (p4, .inl (cZ, 12, .inl (fun _ => (0 : Int32)))), (ht, .inr (4, [.ref t0, .int ts1_1, .int tr1_1, .long tf1_1])), (t0, .inl (cI, 30, .inl fp1_1)), (hg, .inr (1, [.ref g0, .ref g1, .ref g2, .int (nI sd)])), (g0, .inl (cI, 4, .inl (fun _ => (1 : Int32)))), (g1, .inl (cI, 4, .inl (fun _ => (1 : Int32)))), (g2, .inl (cI, 4, .inl (fun _ => (1 : Int32)))), (ho, .inl (cL, 1, .inr (.inl (vp_updL fo 0 (1 : Int64)))))]) rfl (fun _ h => h) dL_ahead_8 ?_
  refine g_goto (tgt := 15) B dL_ahead_9 (by decide) ?_
  refine g_iconst (v := (0 : Int32)) B dL_ahead_15 (by decide) ?_
  exact g_iret_w B hr rfl hlocks () (rfl) (trivial) [13] (by decide) rfl dL_ahead_16

set_option maxHeartbeats 4000000 in
set_option maxRecDepth 100000 in
theorem h_weights_v (l : Launch) (hfl : l.stackTraces = false) {D : va_G} {cI cL cZ : ClassId} (hb : Nat) (hp : Nat) (ht : Nat) (hg : Nat) (ha : Nat) (hq : Nat) (g0 : Nat) (g1 : Nat) (g2 : Nat) (b1 : Nat) (b2 : Nat) (b3 : Nat) (b4 : Nat) (ho : Nat) (fo : Nat → Int64) (h1 : b1 < 4) (h2 : b2 < 10) (h3 : b3 < 10) (h4 : b4 < 10) : HM l yL_weights wsL_weights ({ frames := 2, cells := 0, slots := 0, locals := 49 } : Room) D (gTys cI cL cZ) [.ref hb, .int (nI b1), .int (nI b2), .int (nI b3), .int (nI b4), .ref ho] [(hb, .inr (5, [.ref hp, .ref ht, .ref hg, .ref ha, .ref hq])), (hg, .inr (1, [.ref g0, .ref g1, .ref g2, .int (1 : Int32)])), (g0, .inl (cI, 4, .inl (fun _ => (1 : Int32)))), (g1, .inl (cI, 4, .inl (fun _ => (1 : Int32)))), (g2, .inl (cI, 4, .inl (fun _ => (1 : Int32)))), (ho, .inl (cL, 1, .inr (.inl fo)))] (fun (_ : Unit) => True) (fun (_ : Unit) => some (.int (0 : Int32))) (fun (_ : Unit) => [(ho, .inl (cL, 1, .inr (.inl (vp_updL fo 0 (3 : Int64)))))]) := by
  refine HM.ofG cL_weights 7 (some .int) (by decide +kernel) rfl (Nat.le_of_ble_eq_true rfl) ?_
  intro p e s m below meth c A hA htab hZ hXS B hr hlocks hK hN
  refine g_aload B dL_weights_0 5 rfl ?_
  refine g_iconst (v := (0 : Int32)) B dL_weights_2 (by decide) ?_
  refine g_aload_n B dL_weights_3 0 rfl ?_
  refine g_iload_n B dL_weights_4 1 rfl ?_
  refine g_iload_n B dL_weights_5 2 rfl ?_
  refine g_iload_n B dL_weights_6 3 rfl ?_
  refine g_iload B dL_weights_7 4 rfl ?_
  refine g_callW (w2 := (fun (_ : Unit) => [(ho, .inl (cL, 1, .inr (.inl fo)))])) (g_runV (q0 := 0) (ci := 5) B hK rfl rfl (k_weights_v l (D := D) (cI := cI) (cL := cL) (cZ := cZ) hb hp ht hg ha hq g0 g1 g2 b1 b2 b3 b4 (by first | assumption | omega) (by first | assumption | omega) (by first | assumption | omega) (by first | assumption | omega)) (gPw.pre (av := [.ref hb, .int (nI b1), .int (nI b2), .int (nI b3), .int (nI b4)]) (wc := [(hb, .inr (5, [.ref hp, .ref ht, .ref hg, .ref ha, .ref hq])), (hg, .inr (1, [.ref g0, .ref g1, .ref g2, .int (1 : Int32)])), (g0, .inl (cI, 4, .inl (fun _ => (1 : Int32)))), (g1, .inl (cI, 4, .inl (fun _ => (1 : Int32)))), (g2, .inl (cI, 4, .inl (fun _ => (1 : Int32))))]) hK hN [0, 1, 2, 3, 4] rfl (by decide)) gL_weights_X5_weights rfl rfl kd_X5_weights ⟨by decide, by decide⟩ (st := [.int (0 : Int32), .ref ho]) rfl (Nat.le_of_ble_eq_true rfl) dL_weights_9 ⟨by decide, by decide⟩) hA (fun _ h => h) [0, 1, 2, 3, 4] [5] (wr := [(ho, .inl (cL, 1, .inr (.inl fo)))]) rfl rfl (by decide) (by decide) [0] (by decide) (fun _ => rfl) (fun u hu => ?_)
  refine g_i2l (v := (3 : Int64)) B dL_weights_12 (by decide) ?_
  refine g_last B hK 0 1 rfl rfl 0 rfl (by omega) (by omega) (f2 := (vp_updL fo 0 (3 : Int64))) (rfl) (w2 := [(ho, .inl (cL, 1, .inr (.inl (vp_updL fo 0 (3 : Int64)))))]) rfl (fun _ h => h) dL_weights_13 ?_
  refine g_goto (tgt := 25) B dL_weights_14 (by decide) ?_
  refine g_iconst (v := (0 : Int32)) B dL_weights_25 (by decide) ?_
  exact g_iret_w B hr rfl hlocks () (rfl) (trivial) [0] (by decide) rfl dL_weights_26

set_option maxHeartbeats 4000000 in
set_option maxRecDepth 100000 in
theorem h_generate_v (l : Launch) (hfl : l.stackTraces = false) {D : va_G} {cI cL cZ : ClassId} (hb : Nat) (hp : Nat) (ht : Nat) (hg : Nat) (ha : Nat) (hq : Nat) (p0 : Nat) (p1 : Nat) (p2 : Nat) (p3 : Nat) (p4 : Nat) (t0 : Nat) (fp : Nat → Int32) (ts : Int32) (tr : Int32) (tf : Int64) (g0 : Nat) (g1 : Nat) (g2 : Nat) (a0 : Nat) (a1 : Nat) (a2 : Nat) (a3 : Nat) (fa0 : Nat → Int32) (fa1 : Nat → Int32) (fa3 : Nat → Int64) (ho : Nat) (fo : Nat → Int64)  : HM l yL_generate wsL_generate ({ frames := 6, cells := 0, slots := 0, locals := 137 } : Room) D (gTys cI cL cZ) [.ref hb, .ref ho] [(hb, .inr (5, [.ref hp, .ref ht, .ref hg, .ref ha, .ref hq])), (hp, .inr (2, [.ref p0, .ref p1, .ref p2, .ref p3, .ref p4])), (p0, .inl (cI, 12, .inl (fun _ => (0 : Int32)))), (p1, .inl (cI, 12, .inl (fun _ => (0 : Int32)))), (p2, .inl (cI, 12, .inl (fun _ => (0 : Int32)))), (p3, .inl (cI, 24, .inl (fun _ => (-1 : Int32)))), (p4, .inl (cZ, 12, .inl (fun _ => (0 : Int32)))), (ht, .inr (4, [.ref t0, .int ts, .int tr, .long tf])), (t0, .inl (cI, 30, .inl fp)), (ha, .inr (0, [.ref a0, .ref a1, .ref a2, .ref a3, .int (0 : Int32), .long (0 : Int64)])), (a0, .inl (cI, 41, .inl fa0)), (a1, .inl (cI, 41, .inl fa1)), (a3, .inl (cL, 41, .inr (.inl fa3))), (hg, .inr (1, [.ref g0, .ref g1, .ref g2, .int (1 : Int32)])), (g0, .inl (cI, 4, .inl (fun _ => (1 : Int32)))), (g1, .inl (cI, 4, .inl (fun _ => (1 : Int32)))), (g2, .inl (cI, 4, .inl (fun _ => (1 : Int32)))), (ho, .inl (cL, 1, .inr (.inl fo)))] (fun (_ : Unit) => True) (fun (_ : Unit) => some (.int (0 : Int32))) (fun (_ : Unit) => [(ho, .inl (cL, 1, .inr (.inl (vp_updL fo 0 (7947 : Int64)))))]) := by
  refine HM.ofG cL_generate 3 (some .int) (by decide +kernel) rfl (Nat.le_of_ble_eq_true rfl) ?_
  intro p e s m below meth c A hA htab hZ hXS B hr hlocks hK hN
  refine g_aload_n B dL_generate_0 1 rfl ?_
  refine g_iconst (v := (0 : Int32)) B dL_generate_1 (by decide) ?_
  refine g_aload_n B dL_generate_2 0 rfl ?_
  refine g_callW (w2 := (fun (_ : Unit) => [(ho, .inl (cL, 1, .inr (.inl fo)))])) (g_runV (q0 := 0) (ci := 5) B hK rfl rfl (k_generate_v l (D := D) (cI := cI) (cL := cL) (cZ := cZ) hb hp ht hg ha hq p0 p1 p2 p3 p4 t0 fp ts tr tf g0 g1 g2 a0 a1 a2 a3 fa0 fa1 fa3 ) (gPw.pre (av := [.ref hb]) (wc := [(hb, .inr (5, [.ref hp, .ref ht, .ref hg, .ref ha, .ref hq])), (hp, .inr (2, [.ref p0, .ref p1, .ref p2, .ref p3, .ref p4])), (p0, .inl (cI, 12, .inl (fun _ => (0 : Int32)))), (p1, .inl (cI, 12, .inl (fun _ => (0 : Int32)))), (p2, .inl (cI, 12, .inl (fun _ => (0 : Int32)))), (p3, .inl (cI, 24, .inl (fun _ => (-1 : Int32)))), (p4, .inl (cZ, 12, .inl (fun _ => (0 : Int32)))), (ht, .inr (4, [.ref t0, .int ts, .int tr, .long tf])), (t0, .inl (cI, 30, .inl fp)), (ha, .inr (0, [.ref a0, .ref a1, .ref a2, .ref a3, .int (0 : Int32), .long (0 : Int64)])), (a0, .inl (cI, 41, .inl fa0)), (a1, .inl (cI, 41, .inl fa1)), (a3, .inl (cL, 41, .inr (.inl fa3))), (hg, .inr (1, [.ref g0, .ref g1, .ref g2, .int (1 : Int32)])), (g0, .inl (cI, 4, .inl (fun _ => (1 : Int32)))), (g1, .inl (cI, 4, .inl (fun _ => (1 : Int32)))), (g2, .inl (cI, 4, .inl (fun _ => (1 : Int32))))]) hK hN [0, 1, 2, 3, 4, 5, 6, 7, 8, 9, 10, 11, 12, 13, 14, 15, 16] rfl (by decide)) gL_generate_X5_generate rfl rfl kd_X5_generate ⟨by decide, by decide⟩ (st := [.int (0 : Int32), .ref ho]) rfl (Nat.le_of_ble_eq_true rfl) dL_generate_3 ⟨by decide, by decide⟩) hA (fun _ h => h) [0, 1, 2, 3, 4, 5, 6, 7, 8, 9, 10, 11, 12, 13, 14, 15, 16] [17] (wr := [(ho, .inl (cL, 1, .inr (.inl fo)))]) rfl rfl (by decide) (by decide) [0] (by decide) (fun _ => rfl) (fun u hu => ?_)
  refine g_i2l (v := (7947 : Int64)) B dL_generate_6 (by decide) ?_
  refine g_last B hK 0 1 rfl rfl 0 rfl (by omega) (by omega) (f2 := (vp_updL fo 0 (7947 : Int64))) (rfl) (w2 := [(ho, .inl (cL, 1, .inr (.inl (vp_updL fo 0 (7947 : Int64)))))]) rfl (fun _ h => h) dL_generate_7 ?_
  refine g_goto (tgt := 14) B dL_generate_8 (by decide) ?_
  refine g_iconst (v := (0 : Int32)) B dL_generate_14 (by decide) ?_
  exact g_iret_w B hr rfl hlocks () (rfl) (trivial) [0] (by decide) rfl dL_generate_15

set_option maxHeartbeats 4000000 in
set_option maxRecDepth 100000 in
theorem h_many_0 (l : Launch) (hfl : l.stackTraces = false) {D : va_G} {cI cL cZ : ClassId} (hb : Nat) (hp : Nat) (ht : Nat) (hg : Nat) (ha : Nat) (hq : Nat) (a0 : Nat) (a1 : Nat) (a2 : Nat) (a3 : Nat) (ho : Nat) (fo : Nat → Int64)  : HM l yL_many wsL_many ({ frames := 1, cells := 0, slots := 0, locals := 21 } : Room) D (gTys cI cL cZ) [.ref hb, .int (0 : Int32), .ref ho] [(hb, .inr (5, [.ref hp, .ref ht, .ref hg, .ref ha, .ref hq])), (ha, .inr (0, [.ref a0, .ref a1, .ref a2, .ref a3, .int (0 : Int32), .long (0 : Int64)])), (ho, .inl (cL, 1, .inr (.inl fo)))] (fun (_ : Unit) => True) (fun (_ : Unit) => some (.int (0 : Int32))) (fun (_ : Unit) => [(ho, .inl (cL, 1, .inr (.inl (vp_updL fo 0 (0 : Int64)))))]) := by
  refine HM.ofG cL_many 4 (some .int) (by decide +kernel) rfl (Nat.le_of_ble_eq_true rfl) ?_
  intro p e s m below meth c A hA htab hZ hXS B hr hlocks hK hN
  refine g_aload_n B dL_many_0 2 rfl ?_
  refine g_iconst (v := (0 : Int32)) B dL_many_1 (by decide) ?_
  refine g_aload_n B dL_many_2 0 rfl ?_
  refine g_iload_n B dL_many_3 1 rfl ?_
  refine g_callP (g_runV (q0 := 0) (ci := 5) B hK rfl rfl (PM.met (k_many_0 l (D := D) (cI := cI) (cL := cL) (cZ := cZ) hb hp ht hg ha hq a0 a1 a2 a3 )) (gPp.pre (av := [.ref hb, .int (0 : Int32)]) (wc := [(hb, .inr (5, [.ref hp, .ref ht, .ref hg, .ref ha, .ref hq])), (ha, .inr (0, [.ref a0, .ref a1, .ref a2, .ref a3, .int (0 : Int32), .long (0 : Int64)]))]) hK hN [0, 1] rfl (by decide)) gL_many_X5_many rfl rfl kd_X5_many ⟨by decide, by decide⟩ (st := [.int (0 : Int32), .ref ho]) rfl (Nat.le_of_ble_eq_true rfl) dL_many_4 ⟨by decide, by decide⟩) (fun u hu => ?_)
  refine g_i2l (v := (0 : Int64)) B dL_many_7 (by decide) ?_
  refine g_last B hK 2 1 rfl rfl 0 rfl (by omega) (by omega) (f2 := (vp_updL fo 0 (0 : Int64))) (rfl) (w2 := [(hb, .inr (5, [.ref hp, .ref ht, .ref hg, .ref ha, .ref hq])), (ha, .inr (0, [.ref a0, .ref a1, .ref a2, .ref a3, .int (0 : Int32), .long (0 : Int64)])), (ho, .inl (cL, 1, .inr (.inl (vp_updL fo 0 (0 : Int64)))))]) rfl (fun _ h => h) dL_many_8 ?_
  refine g_goto (tgt := 15) B dL_many_9 (by decide) ?_
  refine g_iconst (v := (0 : Int32)) B dL_many_15 (by decide) ?_
  exact g_iret_w B hr rfl hlocks () (rfl) (trivial) [2] (by decide) rfl dL_many_16

set_option maxHeartbeats 4000000 in
set_option maxRecDepth 100000 in
theorem h_many_1 (l : Launch) (hfl : l.stackTraces = false) {D : va_G} {cI cL cZ : ClassId} (hb : Nat) (hp : Nat) (ht : Nat) (hg : Nat) (ha : Nat) (hq : Nat) (a0 : Nat) (a1 : Nat) (a2 : Nat) (a3 : Nat) (ho : Nat) (fo : Nat → Int64)  : HM l yL_many wsL_many ({ frames := 2, cells := 0, slots := 0, locals := 42 } : Room) D (gTys cI cL cZ) [.ref hb, .int (1 : Int32), .ref ho] [(hb, .inr (5, [.ref hp, .ref ht, .ref hg, .ref ha, .ref hq])), (ha, .inr (0, [.ref a0, .ref a1, .ref a2, .ref a3, .int (0 : Int32), .long (0 : Int64)])), (ho, .inl (cL, 1, .inr (.inl fo)))] (fun (_ : Unit) => True) (fun (_ : Unit) => some (.int (0 : Int32))) (fun (_ : Unit) => [(ho, .inl (cL, 1, .inr (.inl (vp_updL fo 0 (0 : Int64)))))]) := by
  refine HM.ofG cL_many 4 (some .int) (by decide +kernel) rfl (Nat.le_of_ble_eq_true rfl) ?_
  intro p e s m below meth c A hA htab hZ hXS B hr hlocks hK hN
  refine g_aload_n B dL_many_0 2 rfl ?_
  refine g_iconst (v := (0 : Int32)) B dL_many_1 (by decide) ?_
  refine g_aload_n B dL_many_2 0 rfl ?_
  refine g_iload_n B dL_many_3 1 rfl ?_
  refine g_callP (g_runV (q0 := 0) (ci := 5) B hK rfl rfl (PM.met (k_many_1 l (D := D) (cI := cI) (cL := cL) (cZ := cZ) hb hp ht hg ha hq a0 a1 a2 a3 )) (gPp.pre (av := [.ref hb, .int (1 : Int32)]) (wc := [(hb, .inr (5, [.ref hp, .ref ht, .ref hg, .ref ha, .ref hq])), (ha, .inr (0, [.ref a0, .ref a1, .ref a2, .ref a3, .int (0 : Int32), .long (0 : Int64)]))]) hK hN [0, 1] rfl (by decide)) gL_many_X5_many rfl rfl kd_X5_many ⟨by decide, by decide⟩ (st := [.int (0 : Int32), .ref ho]) rfl (Nat.le_of_ble_eq_true rfl) dL_many_4 ⟨by decide, by decide⟩) (fun u hu => ?_)
  refine g_i2l (v := (0 : Int64)) B dL_many_7 (by decide) ?_
  refine g_last B hK 2 1 rfl rfl 0 rfl (by omega) (by omega) (f2 := (vp_updL fo 0 (0 : Int64))) (rfl) (w2 := [(hb, .inr (5, [.ref hp, .ref ht, .ref hg, .ref ha, .ref hq])), (ha, .inr (0, [.ref a0, .ref a1, .ref a2, .ref a3, .int (0 : Int32), .long (0 : Int64)])), (ho, .inl (cL, 1, .inr (.inl (vp_updL fo 0 (0 : Int64)))))]) rfl (fun _ h => h) dL_many_8 ?_
  refine g_goto (tgt := 15) B dL_many_9 (by decide) ?_
  refine g_iconst (v := (0 : Int32)) B dL_many_15 (by decide) ?_
  exact g_iret_w B hr rfl hlocks () (rfl) (trivial) [2] (by decide) rfl dL_many_16

set_option maxHeartbeats 4000000 in
set_option maxRecDepth 100000 in
theorem h_many_2 (l : Launch) (hfl : l.stackTraces = false) {D : va_G} {cI cL cZ : ClassId} (hb : Nat) (hp : Nat) (ht : Nat) (hg : Nat) (ha : Nat) (hq : Nat) (a0 : Nat) (a1 : Nat) (a2 : Nat) (a3 : Nat) (ho : Nat) (fo : Nat → Int64)  : HM l yL_many wsL_many ({ frames := 3, cells := 0, slots := 0, locals := 63 } : Room) D (gTys cI cL cZ) [.ref hb, .int (2 : Int32), .ref ho] [(hb, .inr (5, [.ref hp, .ref ht, .ref hg, .ref ha, .ref hq])), (ha, .inr (0, [.ref a0, .ref a1, .ref a2, .ref a3, .int (0 : Int32), .long (0 : Int64)])), (ho, .inl (cL, 1, .inr (.inl fo)))] (fun (_ : Unit) => True) (fun (_ : Unit) => some (.int (0 : Int32))) (fun (_ : Unit) => [(ho, .inl (cL, 1, .inr (.inl (vp_updL fo 0 (0 : Int64)))))]) := by
  refine HM.ofG cL_many 4 (some .int) (by decide +kernel) rfl (Nat.le_of_ble_eq_true rfl) ?_
  intro p e s m below meth c A hA htab hZ hXS B hr hlocks hK hN
  refine g_aload_n B dL_many_0 2 rfl ?_
  refine g_iconst (v := (0 : Int32)) B dL_many_1 (by decide) ?_
  refine g_aload_n B dL_many_2 0 rfl ?_
  refine g_iload_n B dL_many_3 1 rfl ?_
  refine g_callP (g_runV (q0 := 0) (ci := 5) B hK rfl rfl (PM.met (k_many_2 l (D := D) (cI := cI) (cL := cL) (cZ := cZ) hb hp ht hg ha hq a0 a1 a2 a3 )) (gPp.pre (av := [.ref hb, .int (2 : Int32)]) (wc := [(hb, .inr (5, [.ref hp, .ref ht, .ref hg, .ref ha, .ref hq])), (ha, .inr (0, [.ref a0, .ref a1, .ref a2, .ref a3, .int (0 : Int32), .long (0 : Int64)]))]) hK hN [0, 1] rfl (by decide)) gL_many_X5_many rfl rfl kd_X5_many ⟨by decide, by decide⟩ (st := [.int (0 : Int32), .ref ho]) rfl (Nat.le_of_ble_eq_true rfl) dL_many_4 ⟨by decide, by decide⟩) (fun u hu => ?_)
  refine g_i2l (v := (0 : Int64)) B dL_many_7 (by decide) ?_
  refine g_last B hK 2 1 rfl rfl 0 rfl (by omega) (by omega) (f2 := (vp_updL fo 0 (0 : Int64))) (rfl) (w2 := [(hb, .inr (5, [.ref hp, .ref ht, .ref hg, .ref ha, .ref hq])), (ha, .inr (0, [.ref a0, .ref a1, .ref a2, .ref a3, .int (0 : Int32), .long (0 : Int64)])), (ho, .inl (cL, 1, .inr (.inl (vp_updL fo 0 (0 : Int64)))))]) rfl (fun _ h => h) dL_many_8 ?_
  refine g_goto (tgt := 15) B dL_many_9 (by decide) ?_
  refine g_iconst (v := (0 : Int32)) B dL_many_15 (by decide) ?_
  exact g_iret_w B hr rfl hlocks () (rfl) (trivial) [2] (by decide) rfl dL_many_16

set_option maxHeartbeats 4000000 in
set_option maxRecDepth 100000 in
theorem h_many_3 (l : Launch) (hfl : l.stackTraces = false) {D : va_G} {cI cL cZ : ClassId} (hb : Nat) (hp : Nat) (ht : Nat) (hg : Nat) (ha : Nat) (hq : Nat) (a0 : Nat) (a1 : Nat) (a2 : Nat) (a3 : Nat) (ho : Nat) (fo : Nat → Int64)  : HM l yL_many wsL_many ({ frames := 3, cells := 0, slots := 0, locals := 63 } : Room) D (gTys cI cL cZ) [.ref hb, .int (3 : Int32), .ref ho] [(hb, .inr (5, [.ref hp, .ref ht, .ref hg, .ref ha, .ref hq])), (ha, .inr (0, [.ref a0, .ref a1, .ref a2, .ref a3, .int (0 : Int32), .long (0 : Int64)])), (ho, .inl (cL, 1, .inr (.inl fo)))] (fun (_ : Unit) => True) (fun (_ : Unit) => some (.int (0 : Int32))) (fun (_ : Unit) => [(ho, .inl (cL, 1, .inr (.inl (vp_updL fo 0 (0 : Int64)))))]) := by
  refine HM.ofG cL_many 4 (some .int) (by decide +kernel) rfl (Nat.le_of_ble_eq_true rfl) ?_
  intro p e s m below meth c A hA htab hZ hXS B hr hlocks hK hN
  refine g_aload_n B dL_many_0 2 rfl ?_
  refine g_iconst (v := (0 : Int32)) B dL_many_1 (by decide) ?_
  refine g_aload_n B dL_many_2 0 rfl ?_
  refine g_iload_n B dL_many_3 1 rfl ?_
  refine g_callP (g_runV (q0 := 0) (ci := 5) B hK rfl rfl (PM.met (k_many_3 l (D := D) (cI := cI) (cL := cL) (cZ := cZ) hb hp ht hg ha hq a0 a1 a2 a3 )) (gPp.pre (av := [.ref hb, .int (3 : Int32)]) (wc := [(hb, .inr (5, [.ref hp, .ref ht, .ref hg, .ref ha, .ref hq])), (ha, .inr (0, [.ref a0, .ref a1, .ref a2, .ref a3, .int (0 : Int32), .long (0 : Int64)]))]) hK hN [0, 1] rfl (by decide)) gL_many_X5_many rfl rfl kd_X5_many ⟨by decide, by decide⟩ (st := [.int (0 : Int32), .ref ho]) rfl (Nat.le_of_ble_eq_true rfl) dL_many_4 ⟨by decide, by decide⟩) (fun u hu => ?_)
  refine g_i2l (v := (0 : Int64)) B dL_many_7 (by decide) ?_
  refine g_last B hK 2 1 rfl rfl 0 rfl (by omega) (by omega) (f2 := (vp_updL fo 0 (0 : Int64))) (rfl) (w2 := [(hb, .inr (5, [.ref hp, .ref ht, .ref hg, .ref ha, .ref hq])), (ha, .inr (0, [.ref a0, .ref a1, .ref a2, .ref a3, .int (0 : Int32), .long (0 : Int64)])), (ho, .inl (cL, 1, .inr (.inl (vp_updL fo 0 (0 : Int64)))))]) rfl (fun _ h => h) dL_many_8 ?_
  refine g_goto (tgt := 15) B dL_many_9 (by decide) ?_
  refine g_iconst (v := (0 : Int32)) B dL_many_15 (by decide) ?_
  exact g_iret_w B hr rfl hlocks () (rfl) (trivial) [2] (by decide) rfl dL_many_16

set_option maxHeartbeats 4000000 in
set_option maxRecDepth 100000 in
theorem h_many_4 (l : Launch) (hfl : l.stackTraces = false) {D : va_G} {cI cL cZ : ClassId} (hb : Nat) (hp : Nat) (ht : Nat) (hg : Nat) (ha : Nat) (hq : Nat) (a0 : Nat) (a1 : Nat) (a2 : Nat) (a3 : Nat) (ho : Nat) (fo : Nat → Int64)  : HM l yL_many wsL_many ({ frames := 2, cells := 0, slots := 0, locals := 46 } : Room) D (gTys cI cL cZ) [.ref hb, .int (4 : Int32), .ref ho] [(hb, .inr (5, [.ref hp, .ref ht, .ref hg, .ref ha, .ref hq])), (ha, .inr (0, [.ref a0, .ref a1, .ref a2, .ref a3, .int (0 : Int32), .long (0 : Int64)])), (ho, .inl (cL, 1, .inr (.inl fo)))] (fun (_ : Unit) => True) (fun (_ : Unit) => some (.int (0 : Int32))) (fun (_ : Unit) => [(ho, .inl (cL, 1, .inr (.inl (vp_updL fo 0 (0 : Int64)))))]) := by
  refine HM.ofG cL_many 4 (some .int) (by decide +kernel) rfl (Nat.le_of_ble_eq_true rfl) ?_
  intro p e s m below meth c A hA htab hZ hXS B hr hlocks hK hN
  refine g_aload_n B dL_many_0 2 rfl ?_
  refine g_iconst (v := (0 : Int32)) B dL_many_1 (by decide) ?_
  refine g_aload_n B dL_many_2 0 rfl ?_
  refine g_iload_n B dL_many_3 1 rfl ?_
  refine g_callP (g_runV (q0 := 0) (ci := 5) B hK rfl rfl (PM.met (k_many_4 l (D := D) (cI := cI) (cL := cL) (cZ := cZ) hb hp ht hg ha hq a0 a1 a2 a3 )) (gPp.pre (av := [.ref hb, .int (4 : Int32)]) (wc := [(hb, .inr (5, [.ref hp, .ref ht, .ref hg, .ref ha, .ref hq])), (ha, .inr (0, [.ref a0, .ref a1, .ref a2, .ref a3, .int (0 : Int32), .long (0 : Int64)]))]) hK hN [0, 1] rfl (by decide)) gL_many_X5_many rfl rfl kd_X5_many ⟨by decide, by decide⟩ (st := [.int (0 : Int32), .ref ho]) rfl (Nat.le_of_ble_eq_true rfl) dL_many_4 ⟨by decide, by decide⟩) (fun u hu => ?_)
  refine g_i2l (v := (0 : Int64)) B dL_many_7 (by decide) ?_
  refine g_last B hK 2 1 rfl rfl 0 rfl (by omega) (by omega) (f2 := (vp_updL fo 0 (0 : Int64))) (rfl) (w2 := [(hb, .inr (5, [.ref hp, .ref ht, .ref hg, .ref ha, .ref hq])), (ha, .inr (0, [.ref a0, .ref a1, .ref a2, .ref a3, .int (0 : Int32), .long (0 : Int64)])), (ho, .inl (cL, 1, .inr (.inl (vp_updL fo 0 (0 : Int64)))))]) rfl (fun _ h => h) dL_many_8 ?_
  refine g_goto (tgt := 15) B dL_many_9 (by decide) ?_
  refine g_iconst (v := (0 : Int32)) B dL_many_15 (by decide) ?_
  exact g_iret_w B hr rfl hlocks () (rfl) (trivial) [2] (by decide) rfl dL_many_16

set_option maxHeartbeats 4000000 in
set_option maxRecDepth 100000 in
theorem h_many_5 (l : Launch) (hfl : l.stackTraces = false) {D : va_G} {cI cL cZ : ClassId} (hb : Nat) (hp : Nat) (ht : Nat) (hg : Nat) (ha : Nat) (hq : Nat) (r0 : Nat) (r1 : Nat) (r2 : Nat) (ho : Nat) (fo : Nat → Int64)  : HM l yL_many wsL_many ({ frames := 1, cells := 0, slots := 0, locals := 21 } : Room) D (gTys cI cL cZ) [.ref hb, .int (5 : Int32), .ref ho] [(hb, .inr (5, [.ref hp, .ref ht, .ref hg, .ref ha, .ref hq])), (hq, .inr (3, [.ref r0, .ref r1, .ref r2, .int (0 : Int32)])), (ho, .inl (cL, 1, .inr (.inl fo)))] (fun (_ : Unit) => True) (fun (_ : Unit) => some (.int (0 : Int32))) (fun (_ : Unit) => [(ho, .inl (cL, 1, .inr (.inl (vp_updL fo 0 (0 : Int64)))))]) := by
  refine HM.ofG cL_many 4 (some .int) (by decide +kernel) rfl (Nat.le_of_ble_eq_true rfl) ?_
  intro p e s m below meth c A hA htab hZ hXS B hr hlocks hK hN
  refine g_aload_n B dL_many_0 2 rfl ?_
  refine g_iconst (v := (0 : Int32)) B dL_many_1 (by decide) ?_
  refine g_aload_n B dL_many_2 0 rfl ?_
  refine g_iload_n B dL_many_3 1 rfl ?_
  refine g_callP (g_runV (q0 := 0) (ci := 5) B hK rfl rfl (PM.met (k_many_5 l (D := D) (cI := cI) (cL := cL) (cZ := cZ) hb hp ht hg ha hq r0 r1 r2 )) (gPp.pre (av := [.ref hb, .int (5 : Int32)]) (wc := [(hb, .inr (5, [.ref hp, .ref ht, .ref hg, .ref ha, .ref hq])), (hq, .inr (3, [.ref r0, .ref r1, .ref r2, .int (0 : Int32)]))]) hK hN [0, 1] rfl (by decide)) gL_many_X5_many rfl rfl kd_X5_many ⟨by decide, by decide⟩ (st := [.int (0 : Int32), .ref ho]) rfl (Nat.le_of_ble_eq_true rfl) dL_many_4 ⟨by decide, by decide⟩) (fun u hu => ?_)
  refine g_i2l (v := (0 : Int64)) B dL_many_7 (by decide) ?_
  refine g_last B hK 2 1 rfl rfl 0 rfl (by omega) (by omega) (f2 := (vp_updL fo 0 (0 : Int64))) (rfl) (w2 := [(hb, .inr (5, [.ref hp, .ref ht, .ref hg, .ref ha, .ref hq])), (hq, .inr (3, [.ref r0, .ref r1, .ref r2, .int (0 : Int32)])), (ho, .inl (cL, 1, .inr (.inl (vp_updL fo 0 (0 : Int64)))))]) rfl (fun _ h => h) dL_many_8 ?_
  refine g_goto (tgt := 15) B dL_many_9 (by decide) ?_
  refine g_iconst (v := (0 : Int32)) B dL_many_15 (by decide) ?_
  exact g_iret_w B hr rfl hlocks () (rfl) (trivial) [2] (by decide) rfl dL_many_16

set_option maxHeartbeats 4000000 in
set_option maxRecDepth 100000 in
theorem h_many_6 (l : Launch) (hfl : l.stackTraces = false) {D : va_G} {cI cL cZ : ClassId} (hb : Nat) (hp : Nat) (ht : Nat) (hg : Nat) (ha : Nat) (hq : Nat) (g0 : Nat) (g1 : Nat) (g2 : Nat) (ho : Nat) (fo : Nat → Int64)  : HM l yL_many wsL_many ({ frames := 1, cells := 0, slots := 0, locals := 21 } : Room) D (gTys cI cL cZ) [.ref hb, .int (6 : Int32), .ref ho] [(hb, .inr (5, [.ref hp, .ref ht, .ref hg, .ref ha, .ref hq])), (hg, .inr (1, [.ref g0, .ref g1, .ref g2, .int (1 : Int32)])), (ho, .inl (cL, 1, .inr (.inl fo)))] (fun (_ : Unit) => True) (fun (_ : Unit) => some (.int (0 : Int32))) (fun (_ : Unit) => [(ho, .inl (cL, 1, .inr (.inl (vp_updL fo 0 (1 : Int64)))))]) := by
  refine HM.ofG cL_many 4 (some .int) (by decide +kernel) rfl (Nat.le_of_ble_eq_true rfl) ?_
  intro p e s m below meth c A hA htab hZ hXS B hr hlocks hK hN
  refine g_aload_n B dL_many_0 2 rfl ?_
  refine g_iconst (v := (0 : Int32)) B dL_many_1 (by decide) ?_
  refine g_aload_n B dL_many_2 0 rfl ?_
  refine g_iload_n B dL_many_3 1 rfl ?_
  refine g_callP (g_runV (q0 := 0) (ci := 5) B hK rfl rfl (PM.met (k_many_6 l (D := D) (cI := cI) (cL := cL) (cZ := cZ) hb hp ht hg ha hq g0 g1 g2 )) (gPp.pre (av := [.ref hb, .int (6 : Int32)]) (wc := [(hb, .inr (5, [.ref hp, .ref ht, .ref hg, .ref ha, .ref hq])), (hg, .inr (1, [.ref g0, .ref g1, .ref g2, .int (1 : Int32)]))]) hK hN [0, 1] rfl (by decide)) gL_many_X5_many rfl rfl kd_X5_many ⟨by decide, by decide⟩ (st := [.int (0 : Int32), .ref ho]) rfl (Nat.le_of_ble_eq_true rfl) dL_many_4 ⟨by decide, by decide⟩) (fun u hu => ?_)
  refine g_i2l (v := (1 : Int64)) B dL_many_7 (by decide) ?_
  refine g_last B hK 2 1 rfl rfl 0 rfl (by omega) (by omega) (f2 := (vp_updL fo 0 (1 : Int64))) (rfl) (w2 := [(hb, .inr (5, [.ref hp, .ref ht, .ref hg, .ref ha, .ref hq])), (hg, .inr (1, [.ref g0, .ref g1, .ref g2, .int (1 : Int32)])), (ho, .inl (cL, 1, .inr (.inl (vp_updL fo 0 (1 : Int64)))))]) rfl (fun _ h => h) dL_many_8 ?_
  refine g_goto (tgt := 15) B dL_many_9 (by decide) ?_
  refine g_iconst (v := (0 : Int32)) B dL_many_15 (by decide) ?_
  exact g_iret_w B hr rfl hlocks () (rfl) (trivial) [2] (by decide) rfl dL_many_16

set_option maxHeartbeats 4000000 in
set_option maxRecDepth 100000 in
theorem h_many_7 (l : Launch) (hfl : l.stackTraces = false) {D : va_G} {cI cL cZ : ClassId} (hb : Nat) (hp : Nat) (ht : Nat) (hg : Nat) (ha : Nat) (hq : Nat) (p0 : Nat) (p1 : Nat) (p2 : Nat) (p3 : Nat) (p4 : Nat) (ho : Nat) (fo : Nat → Int64)  : HM l yL_many wsL_many ({ frames := 3, cells := 0, slots := 0, locals := 67 } : Room) D (gTys cI cL cZ) [.ref hb, .int (7 : Int32), .ref ho] [(hb, .inr (5, [.ref hp, .ref ht, .ref hg, .ref ha, .ref hq])), (hp, .inr (2, [.ref p0, .ref p1, .ref p2, .ref p3, .ref p4])), (p3, .inl (cI, 24, .inl (fun _ => (-1 : Int32)))), (ho, .inl (cL, 1, .inr (.inl fo)))] (fun (_ : Unit) => True) (fun (_ : Unit) => some (.int (0 : Int32))) (fun (_ : Unit) => [(ho, .inl (cL, 1, .inr (.inl (vp_updL fo 0 (1 : Int64)))))]) := by
  refine HM.ofG cL_many 4 (some .int) (by decide +kernel) rfl (Nat.le_of_ble_eq_true rfl) ?_
  intro p e s m below meth c A hA htab hZ hXS B hr hlocks hK hN
  refine g_aload_n B dL_many_0 2 rfl ?_
  refine g_iconst (v := (0 : Int32)) B dL_many_1 (by decide) ?_
  refine g_aload_n B dL_many_2 0 rfl ?_
  refine g_iload_n B dL_many_3 1 rfl ?_
  refine g_callP (g_runV (q0 := 0) (ci := 5) B hK rfl rfl (PM.met (k_many_7 l (D := D) (cI := cI) (cL := cL) (cZ := cZ) hb hp ht hg ha hq p0 p1 p2 p3 p4 )) (gPp.pre (av := [.ref hb, .int (7 : Int32)]) (wc := [(hb, .inr (5, [.ref hp, .ref ht, .ref hg, .ref ha, .ref hq])), (hp, .inr (2, [.ref p0, .ref p1, .ref p2, .ref p3, .ref p4])), (p3, .inl (cI, 24, .inl (fun _ => (-1 : Int32))))]) hK hN [0, 1, 2] rfl (by decide)) gL_many_X5_many rfl rfl kd_X5_many ⟨by decide, by decide⟩ (st := [.int (0 : Int32), .ref ho]) rfl (Nat.le_of_ble_eq_true rfl) dL_many_4 ⟨by decide, by decide⟩) (fun u hu => ?_)
  refine g_i2l (v := (1 : Int64)) B dL_many_7 (by decide) ?_
  refine g_last B hK 3 1 rfl rfl 0 rfl (by omega) (by omega) (f2 := (vp_updL fo 0 (1 : Int64))) (rfl) (w2 := [(hb, .inr (5, [.ref hp, .ref ht, .ref hg, .ref ha, .ref hq])), (hp, .inr (2, [.ref p0, .ref p1, .ref p2, .ref p3, .ref p4])), (p3, .inl (cI, 24, .inl (fun _ => (-1 : Int32)))), (ho, .inl (cL, 1, .inr (.inl (vp_updL fo 0 (1 : Int64)))))]) rfl (fun _ h => h) dL_many_8 ?_
  refine g_goto (tgt := 15) B dL_many_9 (by decide) ?_
  refine g_iconst (v := (0 : Int32)) B dL_many_15 (by decide) ?_
  exact g_iret_w B hr rfl hlocks () (rfl) (trivial) [3] (by decide) rfl dL_many_16

set_option maxHeartbeats 4000000 in
set_option maxRecDepth 100000 in
theorem h_ofEdge_v0 (l : Launch) (hfl : l.stackTraces = false) {D : va_G} {cI cL cZ : ClassId} (hb : Nat) (hp : Nat) (ht : Nat) (hg : Nat) (ha : Nat) (hq : Nat) (a0 : Nat) (a1 : Nat) (a2 : Nat) (a3 : Nat) (b1 : Nat) (ho : Nat) (fo : Nat → Int64) (h1 : b1 < 24) : HM l yL_ofEdge wsL_ofEdge ({ frames := 2, cells := 0, slots := 0, locals := 48 } : Room) D (gTys cI cL cZ) [.ref hb, .int (nI b1), .int (0 : Int32), .ref ho] [(hb, .inr (5, [.ref hp, .ref ht, .ref hg, .ref ha, .ref hq])), (ha, .inr (0, [.ref a0, .ref a1, .ref a2, .ref a3, .int (0 : Int32), .long (0 : Int64)])), (ho, .inl (cL, 1, .inr (.inl fo)))] (fun (_ : Unit) => True) (fun (_ : Unit) => some (.int (0 : Int32))) (fun (_ : Unit) => [(ho, .inl (cL, 1, .inr (.inl (vp_updL fo 0 (0 : Int64)))))]) := by
  refine HM.ofG cL_ofEdge 5 (some .int) (by decide +kernel) rfl (Nat.le_of_ble_eq_true rfl) ?_
  intro p e s m below meth c A hA htab hZ hXS B hr hlocks hK hN
  refine g_aload_n B dL_ofEdge_0 3 rfl ?_
  refine g_iconst (v := (0 : Int32)) B dL_ofEdge_1 (by decide) ?_
  refine g_aload_n B dL_ofEdge_2 0 rfl ?_
  refine g_iload_n B dL_ofEdge_3 1 rfl ?_
  refine g_iload_n B dL_ofEdge_4 2 rfl ?_
  refine g_callP (g_runV (q0 := 0) (ci := 5) B hK rfl rfl (PM.met (k_ofEdge_v0 l (D := D) (cI := cI) (cL := cL) (cZ := cZ) hb hp ht hg ha hq a0 a1 a2 a3 b1 (by first | assumption | omega))) (gPp.pre (av := [.ref hb, .int (nI b1), .int (0 : Int32)]) (wc := [(hb, .inr (5, [.ref hp, .ref ht, .ref hg, .ref ha, .ref hq])), (ha, .inr (0, [.ref a0, .ref a1, .ref a2, .ref a3, .int (0 : Int32), .long (0 : Int64)]))]) hK hN [0, 1] rfl (by decide)) gL_ofEdge_X5_ofEdge rfl rfl kd_X5_ofEdge ⟨by decide, by decide⟩ (st := [.int (0 : Int32), .ref ho]) rfl (Nat.le_of_ble_eq_true rfl) dL_ofEdge_5 ⟨by decide, by decide⟩) (fun u hu => ?_)
  refine g_i2l (v := (0 : Int64)) B dL_ofEdge_8 (by decide) ?_
  refine g_last B hK 2 1 rfl rfl 0 rfl (by omega) (by omega) (f2 := (vp_updL fo 0 (0 : Int64))) (rfl) (w2 := [(hb, .inr (5, [.ref hp, .ref ht, .ref hg, .ref ha, .ref hq])), (ha, .inr (0, [.ref a0, .ref a1, .ref a2, .ref a3, .int (0 : Int32), .long (0 : Int64)])), (ho, .inl (cL, 1, .inr (.inl (vp_updL fo 0 (0 : Int64)))))]) rfl (fun _ h => h) dL_ofEdge_9 ?_
  refine g_goto (tgt := 21) B dL_ofEdge_10 (by decide) ?_
  refine g_iconst (v := (0 : Int32)) B dL_ofEdge_21 (by decide) ?_
  exact g_iret_w B hr rfl hlocks () (rfl) (trivial) [2] (by decide) rfl dL_ofEdge_22

set_option maxHeartbeats 4000000 in
set_option maxRecDepth 100000 in
theorem h_ofEdge_v1 (l : Launch) (hfl : l.stackTraces = false) {D : va_G} {cI cL cZ : ClassId} (hb : Nat) (hp : Nat) (ht : Nat) (hg : Nat) (ha : Nat) (hq : Nat) (a0 : Nat) (a1 : Nat) (a2 : Nat) (a3 : Nat) (b1 : Nat) (ho : Nat) (fo : Nat → Int64) (h1 : b1 < 24) : HM l yL_ofEdge wsL_ofEdge ({ frames := 2, cells := 0, slots := 0, locals := 48 } : Room) D (gTys cI cL cZ) [.ref hb, .int (nI b1), .int (1 : Int32), .ref ho] [(hb, .inr (5, [.ref hp, .ref ht, .ref hg, .ref ha, .ref hq])), (ha, .inr (0, [.ref a0, .ref a1, .ref a2, .ref a3, .int (0 : Int32), .long (0 : Int64)])), (ho, .inl (cL, 1, .inr (.inl fo)))] (fun (_ : Unit) => True) (fun (_ : Unit) => some (.int (0 : Int32))) (fun (_ : Unit) => [(ho, .inl (cL, 1, .inr (.inl (vp_updL fo 0 (0 : Int64)))))]) := by
  refine HM.ofG cL_ofEdge 5 (some .int) (by decide +kernel) rfl (Nat.le_of_ble_eq_true rfl) ?_
  intro p e s m below meth c A hA htab hZ hXS B hr hlocks hK hN
  refine g_aload_n B dL_ofEdge_0 3 rfl ?_
  refine g_iconst (v := (0 : Int32)) B dL_ofEdge_1 (by decide) ?_
  refine g_aload_n B dL_ofEdge_2 0 rfl ?_
  refine g_iload_n B dL_ofEdge_3 1 rfl ?_
  refine g_iload_n B dL_ofEdge_4 2 rfl ?_
  refine g_callP (g_runV (q0 := 0) (ci := 5) B hK rfl rfl (PM.met (k_ofEdge_v1 l (D := D) (cI := cI) (cL := cL) (cZ := cZ) hb hp ht hg ha hq a0 a1 a2 a3 b1 (by first | assumption | omega))) (gPp.pre (av := [.ref hb, .int (nI b1), .int (1 : Int32)]) (wc := [(hb, .inr (5, [.ref hp, .ref ht, .ref hg, .ref ha, .ref hq])), (ha, .inr (0, [.ref a0, .ref a1, .ref a2, .ref a3, .int (0 : Int32), .long (0 : Int64)]))]) hK hN [0, 1] rfl (by decide)) gL_ofEdge_X5_ofEdge rfl rfl kd_X5_ofEdge ⟨by decide, by decide⟩ (st := [.int (0 : Int32), .ref ho]) rfl (Nat.le_of_ble_eq_true rfl) dL_ofEdge_5 ⟨by decide, by decide⟩) (fun u hu => ?_)
  refine g_i2l (v := (0 : Int64)) B dL_ofEdge_8 (by decide) ?_
  refine g_last B hK 2 1 rfl rfl 0 rfl (by omega) (by omega) (f2 := (vp_updL fo 0 (0 : Int64))) (rfl) (w2 := [(hb, .inr (5, [.ref hp, .ref ht, .ref hg, .ref ha, .ref hq])), (ha, .inr (0, [.ref a0, .ref a1, .ref a2, .ref a3, .int (0 : Int32), .long (0 : Int64)])), (ho, .inl (cL, 1, .inr (.inl (vp_updL fo 0 (0 : Int64)))))]) rfl (fun _ h => h) dL_ofEdge_9 ?_
  refine g_goto (tgt := 21) B dL_ofEdge_10 (by decide) ?_
  refine g_iconst (v := (0 : Int32)) B dL_ofEdge_21 (by decide) ?_
  exact g_iret_w B hr rfl hlocks () (rfl) (trivial) [2] (by decide) rfl dL_ofEdge_22

set_option maxHeartbeats 4000000 in
set_option maxRecDepth 100000 in
theorem h_ofEdge_v2 (l : Launch) (hfl : l.stackTraces = false) {D : va_G} {cI cL cZ : ClassId} (hb : Nat) (hp : Nat) (ht : Nat) (hg : Nat) (ha : Nat) (hq : Nat) (a0 : Nat) (a1 : Nat) (a2 : Nat) (a3 : Nat) (b1 : Nat) (ho : Nat) (fo : Nat → Int64) (h1 : b1 < 24) : HM l yL_ofEdge wsL_ofEdge ({ frames := 2, cells := 0, slots := 0, locals := 48 } : Room) D (gTys cI cL cZ) [.ref hb, .int (nI b1), .int (2 : Int32), .ref ho] [(hb, .inr (5, [.ref hp, .ref ht, .ref hg, .ref ha, .ref hq])), (ha, .inr (0, [.ref a0, .ref a1, .ref a2, .ref a3, .int (0 : Int32), .long (0 : Int64)])), (ho, .inl (cL, 1, .inr (.inl fo)))] (fun (_ : Unit) => True) (fun (_ : Unit) => some (.int (0 : Int32))) (fun (_ : Unit) => [(ho, .inl (cL, 1, .inr (.inl (vp_updL fo 0 (-1 : Int64)))))]) := by
  refine HM.ofG cL_ofEdge 5 (some .int) (by decide +kernel) rfl (Nat.le_of_ble_eq_true rfl) ?_
  intro p e s m below meth c A hA htab hZ hXS B hr hlocks hK hN
  refine g_aload_n B dL_ofEdge_0 3 rfl ?_
  refine g_iconst (v := (0 : Int32)) B dL_ofEdge_1 (by decide) ?_
  refine g_aload_n B dL_ofEdge_2 0 rfl ?_
  refine g_iload_n B dL_ofEdge_3 1 rfl ?_
  refine g_iload_n B dL_ofEdge_4 2 rfl ?_
  refine g_callP (g_runV (q0 := 0) (ci := 5) B hK rfl rfl (PM.met (k_ofEdge_v2 l (D := D) (cI := cI) (cL := cL) (cZ := cZ) hb hp ht hg ha hq a0 a1 a2 a3 b1 (by first | assumption | omega))) (gPp.pre (av := [.ref hb, .int (nI b1), .int (2 : Int32)]) (wc := [(hb, .inr (5, [.ref hp, .ref ht, .ref hg, .ref ha, .ref hq])), (ha, .inr (0, [.ref a0, .ref a1, .ref a2, .ref a3, .int (0 : Int32), .long (0 : Int64)]))]) hK hN [0, 1] rfl (by decide)) gL_ofEdge_X5_ofEdge rfl rfl kd_X5_ofEdge ⟨by decide, by decide⟩ (st := [.int (0 : Int32), .ref ho]) rfl (Nat.le_of_ble_eq_true rfl) dL_ofEdge_5 ⟨by decide, by decide⟩) (fun u hu => ?_)
  refine g_i2l (v := (-1 : Int64)) B dL_ofEdge_8 (by decide) ?_
  refine g_last B hK 2 1 rfl rfl 0 rfl (by omega) (by omega) (f2 := (vp_updL fo 0 (-1 : Int64))) (rfl) (w2 := [(hb, .inr (5, [.ref hp, .ref ht, .ref hg, .ref ha, .ref hq])), (ha, .inr (0, [.ref a0, .ref a1, .ref a2, .ref a3, .int (0 : Int32), .long (0 : Int64)])), (ho, .inl (cL, 1, .inr (.inl (vp_updL fo 0 (-1 : Int64)))))]) rfl (fun _ h => h) dL_ofEdge_9 ?_
  refine g_goto (tgt := 21) B dL_ofEdge_10 (by decide) ?_
  refine g_iconst (v := (0 : Int32)) B dL_ofEdge_21 (by decide) ?_
  exact g_iret_w B hr rfl hlocks () (rfl) (trivial) [2] (by decide) rfl dL_ofEdge_22

set_option maxHeartbeats 4000000 in
set_option maxRecDepth 100000 in
theorem h_smallest_v (l : Launch) (hfl : l.stackTraces = false) {D : va_G} {cI cL cZ : ClassId} (hb : Nat) (hp : Nat) (ht : Nat) (hg : Nat) (ha : Nat) (hq : Nat) (p0 : Nat) (p1 : Nat) (p2 : Nat) (p3 : Nat) (p4 : Nat) (t0 : Nat) (fp : Nat → Int32) (ts : Int32) (tr : Int32) (tf : Int64) (ed : Nat) (t : Nat) (ho : Nat) (fo : Nat → Int64) (h1 : ed < 24) (ht1 : t < 10000) : HM l yL_smallest wsL_smallest ({ frames := 4, cells := 0, slots := 0, locals := 93 } : Room) D (gTys cI cL cZ) [.ref hb, .int (nI ed), .int (nI t), .ref ho] [(hb, .inr (5, [.ref hp, .ref ht, .ref hg, .ref ha, .ref hq])), (hp, .inr (2, [.ref p0, .ref p1, .ref p2, .ref p3, .ref p4])), (p0, .inl (cI, 12, .inl (fun _ => (0 : Int32)))), (p1, .inl (cI, 12, .inl (fun _ => (0 : Int32)))), (p2, .inl (cI, 12, .inl (fun _ => (0 : Int32)))), (p3, .inl (cI, 24, .inl (fun _ => (-1 : Int32)))), (p4, .inl (cZ, 12, .inl (fun _ => (0 : Int32)))), (ht, .inr (4, [.ref t0, .int ts, .int tr, .long tf])), (t0, .inl (cI, 30, .inl fp)), (ho, .inl (cL, 1, .inr (.inl fo)))] (fun (_ : Unit) => True) (fun (_ : Unit) => some (.int (0 : Int32))) (fun (_ : Unit) => [(ho, .inl (cL, 1, .inr (.inl (vp_updL fo 0 ((if ed = 1 then nI (t / 100 * 100) else -1).toInt64)))))]) := by
  refine HM.ofG cL_smallest 5 (some .int) (by decide +kernel) rfl (Nat.le_of_ble_eq_true rfl) ?_
  intro p e s m below meth c A hA htab hZ hXS B hr hlocks hK hN
  refine g_aload_n B dL_smallest_0 3 rfl ?_
  refine g_iconst (v := (0 : Int32)) B dL_smallest_1 (by decide) ?_
  refine g_aload_n B dL_smallest_2 0 rfl ?_
  refine g_iload_n B dL_smallest_3 1 rfl ?_
  refine g_iload_n B dL_smallest_4 2 rfl ?_
  refine g_callW (w2 := (fun (r_1 : Int32) => [(ho, .inl (cL, 1, .inr (.inl fo)))])) (g_runV (q0 := 0) (ci := 5) B hK rfl rfl (k_smallest_v l (D := D) (cI := cI) (cL := cL) (cZ := cZ) hb hp ht hg ha hq p0 p1 p2 p3 p4 t0 fp ts tr tf ed t (by first | assumption | omega) (by first | assumption | omega)) (gPw.pre (av := [.ref hb, .int (nI ed), .int (nI t)]) (wc := [(hb, .inr (5, [.ref hp, .ref ht, .ref hg, .ref ha, .ref hq])), (hp, .inr (2, [.ref p0, .ref p1, .ref p2, .ref p3, .ref p4])), (p0, .inl (cI, 12, .inl (fun _ => (0 : Int32)))), (p1, .inl (cI, 12, .inl (fun _ => (0 : Int32)))), (p2, .inl (cI, 12, .inl (fun _ => (0 : Int32)))), (p3, .inl (cI, 24, .inl (fun _ => (-1 : Int32)))), (p4, .inl (cZ, 12, .inl (fun _ => (0 : Int32)))), (ht, .inr (4, [.ref t0, .int ts, .int tr, .long tf])), (t0, .inl (cI, 30, .inl fp))]) hK hN [0, 1, 2, 3, 4, 5, 6, 7, 8] rfl (by decide)) gL_smallest_X5_smallest rfl rfl kd_X5_smallest ⟨by decide, by decide⟩ (st := [.int (0 : Int32), .ref ho]) rfl (Nat.le_of_ble_eq_true rfl) dL_smallest_5 ⟨by decide, by decide⟩) hA (fun _ h => h) [0, 1, 2, 3, 4, 5, 6, 7, 8] [9] (wr := [(ho, .inl (cL, 1, .inr (.inl fo)))]) rfl rfl (by decide) (by decide) [0] (by decide) (fun _ => rfl) (fun u hu => ?_)
  obtain ⟨r_1, e9⟩ : ∃ z, z = u := ⟨_, rfl⟩; subst e9
  try dsimp only at hu ⊢
  have e1_0 := hu
  subst e1_0
  refine g_i2l (v := (if ed = 1 then nI (t / 100 * 100) else -1).toInt64) B dL_smallest_8 rfl ?_
  refine g_last B hK 0 1 rfl rfl 0 rfl (by omega) (by omega) (f2 := (vp_updL fo 0 ((if ed = 1 then nI (t / 100 * 100) else -1).toInt64))) (rfl) (w2 := [(ho, .inl (cL, 1, .inr (.inl (vp_updL fo 0 ((if ed = 1 then nI (t / 100 * 100) else -1).toInt64)))))]) rfl (fun _ h => h) dL_smallest_9 ?_
  refine g_goto (tgt := 21) B dL_smallest_10 (by decide) ?_
  refine g_iconst (v := (0 : Int32)) B dL_smallest_21 (by decide) ?_
  exact g_iret_w B hr rfl hlocks () (rfl) (trivial) [0] (by decide) rfl dL_smallest_22

