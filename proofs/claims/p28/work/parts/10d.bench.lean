/-! the bench: what is needed -/
theorem kd_X6_alone : yX6_alone.cls ≠ "java/lang/invoke/MethodHandle" ∧ yX6_alone.cls ≠ "java/lang/invoke/VarHandle" ∧ (parseMethodDescriptor yX6_alone.desc).map (fun d => d.parameters.length) = some 1 := by decide +kernel
theorem kd_X6_count : yX6_count.cls ≠ "java/lang/invoke/MethodHandle" ∧ yX6_count.cls ≠ "java/lang/invoke/VarHandle" ∧ (parseMethodDescriptor yX6_count.desc).map (fun d => d.parameters.length) = some 1 := by decide +kernel
theorem kd_X6_covered : yX6_covered.cls ≠ "java/lang/invoke/MethodHandle" ∧ yX6_covered.cls ≠ "java/lang/invoke/VarHandle" ∧ (parseMethodDescriptor yX6_covered.desc).map (fun d => d.parameters.length) = some 1 := by decide +kernel
theorem kd_X6_isOnlyFailure : yX6_isOnlyFailure.cls ≠ "java/lang/invoke/MethodHandle" ∧ yX6_isOnlyFailure.cls ≠ "java/lang/invoke/VarHandle" ∧ (parseMethodDescriptor yX6_isOnlyFailure.desc).map (fun d => d.parameters.length) = some 1 := by decide +kernel
theorem kd_X6_result : yX6_result.cls ≠ "java/lang/invoke/MethodHandle" ∧ yX6_result.cls ≠ "java/lang/invoke/VarHandle" ∧ (parseMethodDescriptor yX6_result.desc).map (fun d => d.parameters.length) = some 1 := by decide +kernel
theorem hin_X6_alone_RX6 : ∀ z ∈ u_ws RX6 TX6 8, z ∈ wsX6_alone := by decide +kernel
theorem hin_X6_isOnlyFailure_RX6 : ∀ z ∈ u_ws RX6 TX6 8, z ∈ wsX6_isOnlyFailure := by decide +kernel
theorem hin_X6_kept_RX6 : ∀ z ∈ u_ws RX6 TX6 8, z ∈ wsX6_kept := by decide +kernel
theorem bk_no {P : Pg} {t : Nat → Nat} {S : Int64} {c k : Nat} (h : (hasB S k && !decide (t k = c)) = false) : ks_bk P t S c (k + 1) = ks_bk P t S c k := by
  show (if hasB S k && !decide (t k = c) then _ else _) = _
  rw [h]; rfl
theorem bk_yes {P : Pg} {t : Nat → Nat} {S : Int64} {c k b : Nat} (h1 : hasB S k = true) (h2 : ¬ t k = c) : ks_bk P t S c (k + 1) b = (ks_bk P t S c k b && !hasB (ks_fd P (t k)) b) := by
  show (if hasB S k && !decide (t k = c) then fun b => ks_bk P t S c k b && !hasB (ks_fd P (t k)) b else ks_bk P t S c k) b = _
  rw [h1, decide_eq_false h2]; rfl
theorem al_step {pe pk o : Nat → Bool} {e : Nat} (h : ∀ b, pe b = if b < e then pk b && !o b else pk b) : ∀ b, updB pe e (pe e && !o e) b = if b < e + 1 then pk b && !o b else pk b := fun b => by
  unfold updB
  by_cases hb : b = e
  · subst hb
    rw [if_pos rfl, if_pos (by omega), h b, if_neg (by omega)]
  · rw [if_neg hb, h b]
    by_cases h1 : b < e
    · rw [if_pos h1, if_pos (by omega)]
    · rw [if_neg h1, if_neg (by omega)]
