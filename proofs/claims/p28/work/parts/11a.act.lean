/-! the bench: its acts -/
theorem kd_X5_ask : yX5_ask.cls ≠ "java/lang/invoke/MethodHandle" ∧ yX5_ask.cls ≠ "java/lang/invoke/VarHandle" ∧ (parseMethodDescriptor yX5_ask.desc).map (fun d => d.parameters.length) = some 4 := by decide +kernel
theorem kd_X5_bad : yX5_bad.cls ≠ "java/lang/invoke/MethodHandle" ∧ yX5_bad.cls ≠ "java/lang/invoke/VarHandle" ∧ (parseMethodDescriptor yX5_bad.desc).map (fun d => d.parameters.length) = some 2 := by decide +kernel
theorem kd_X5_draw : yX5_draw.cls ≠ "java/lang/invoke/MethodHandle" ∧ yX5_draw.cls ≠ "java/lang/invoke/VarHandle" ∧ (parseMethodDescriptor yX5_draw.desc).map (fun d => d.parameters.length) = some 1 := by decide +kernel
theorem kd_X5_lead : yX5_lead.cls ≠ "java/lang/invoke/MethodHandle" ∧ yX5_lead.cls ≠ "java/lang/invoke/VarHandle" ∧ (parseMethodDescriptor yX5_lead.desc).map (fun d => d.parameters.length) = some 3 := by decide +kernel
theorem kd_X5_taste : yX5_taste.cls ≠ "java/lang/invoke/MethodHandle" ∧ yX5_taste.cls ≠ "java/lang/invoke/VarHandle" ∧ (parseMethodDescriptor yX5_taste.desc).map (fun d => d.parameters.length) = some 1 := by decide +kernel
theorem kd_X5_weights : yX5_weights.cls ≠ "java/lang/invoke/MethodHandle" ∧ yX5_weights.cls ≠ "java/lang/invoke/VarHandle" ∧ (parseMethodDescriptor yX5_weights.desc).map (fun d => d.parameters.length) = some 4 := by decide +kernel
theorem kd_X6_any : yX6_any.cls ≠ "java/lang/invoke/MethodHandle" ∧ yX6_any.cls ≠ "java/lang/invoke/VarHandle" ∧ (parseMethodDescriptor yX6_any.desc).map (fun d => d.parameters.length) = some 1 := by decide +kernel
theorem kd_X6_change : yX6_change.cls ≠ "java/lang/invoke/MethodHandle" ∧ yX6_change.cls ≠ "java/lang/invoke/VarHandle" ∧ (parseMethodDescriptor yX6_change.desc).map (fun d => d.parameters.length) = some 0 := by decide +kernel
theorem kd_X6_taste : yX6_taste.cls ≠ "java/lang/invoke/MethodHandle" ∧ yX6_taste.cls ≠ "java/lang/invoke/VarHandle" ∧ (parseMethodDescriptor yX6_taste.desc).map (fun d => d.parameters.length) = some 1 := by decide +kernel
theorem hin_X6_ask_RX6 : ∀ z ∈ u_ws RX6 TX6 8, z ∈ wsX6_ask := by decide +kernel
theorem hin_X6_bad_RX6 : ∀ z ∈ u_ws RX6 TX6 8, z ∈ wsX6_bad := by decide +kernel
theorem hin_X6_lead_RX6 : ∀ z ∈ u_ws RX6 TX6 8, z ∈ wsX6_lead := by decide +kernel
theorem hin_X6_redraw_RX6 : ∀ z ∈ u_ws RX6 TX6 8, z ∈ wsX6_redraw := by decide +kernel
theorem hin_X6_tasteOne_RX6 : ∀ z ∈ u_ws RX6 TX6 8, z ∈ wsX6_tasteOne := by decide +kernel
theorem hin_X6_weigh_RX6 : ∀ z ∈ u_ws RX6 TX6 8, z ∈ wsX6_weigh := by decide +kernel
theorem wr_same {W : Wg} {s : Nat} : ∀ i, i < 4 → ks_wr W i = tl_up (ks_wr W) s (ks_wr W s) i := fun i _ => by
  unfold tl_up
  by_cases h : i = s
  · subst h; rw [if_pos rfl]
  · rw [if_neg h]
theorem wr_step {W : Wg} {s k : Nat} {g : Nat → Int32} {x : Int32} : ∀ i, i < 4 → tl_up (tl_up (ks_wr W) s g) s (upd (tl_up (ks_wr W) s g s) k x) i = tl_up (ks_wr W) s (upd g k x) i := fun i _ => by
  unfold tl_up
  by_cases h : i = s
  · subst h; simp
  · simp [h]
theorem wr_end {W : Wg} {s a b c : Nat} {g : Nat → Int32} (h0 : g 0 = nI a) (h1 : g 1 = nI b) (h2 : g 2 = nI c) (h3 : ∀ j, 3 ≤ j → g j = ks_wr W s j) : ∀ i, i < 4 → tl_up (ks_wr W) s g i = ks_wr (ks_setW W s a b c) i := fun i _ => by
  funext j
  by_cases h : i = s
  · subst h
    by_cases e0 : j = 0
    · subst e0; simp [tl_up, ks_wr, ks_setW, updN, h0]
    · by_cases e1 : j = 1
      · subst e1; simp [tl_up, ks_wr, ks_setW, updN, h1]
      · by_cases e2 : j = 2
        · subst e2; simp [tl_up, ks_wr, ks_setW, updN, h2]
        · have := h3 j (by omega)
          simp [tl_up, ks_wr, e0, e1, e2] at this ⊢
          exact this
  · simp [tl_up, ks_wr, ks_setW, updN, h]
