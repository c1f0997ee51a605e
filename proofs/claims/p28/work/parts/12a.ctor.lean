/-! the constructors -/
theorem kd_J7_fill_53178 : yJ7_fill_53178.cls ≠ "java/lang/invoke/MethodHandle" ∧ yJ7_fill_53178.cls ≠ "java/lang/invoke/VarHandle" ∧ (parseMethodDescriptor yJ7_fill_53178.desc).map (fun d => d.parameters.length) = some 2 := by decide +kernel
theorem kd_X0_init : yX0_init.cls ≠ "java/lang/invoke/MethodHandle" ∧ yX0_init.cls ≠ "java/lang/invoke/VarHandle" ∧ (parseMethodDescriptor yX0_init.desc).map (fun d => d.parameters.length) = some 0 := by decide +kernel
theorem kd_X1_init : yX1_init.cls ≠ "java/lang/invoke/MethodHandle" ∧ yX1_init.cls ≠ "java/lang/invoke/VarHandle" ∧ (parseMethodDescriptor yX1_init.desc).map (fun d => d.parameters.length) = some 0 := by decide +kernel
theorem kd_X2_init : yX2_init.cls ≠ "java/lang/invoke/MethodHandle" ∧ yX2_init.cls ≠ "java/lang/invoke/VarHandle" ∧ (parseMethodDescriptor yX2_init.desc).map (fun d => d.parameters.length) = some 0 := by decide +kernel
theorem kd_X3_init : yX3_init.cls ≠ "java/lang/invoke/MethodHandle" ∧ yX3_init.cls ≠ "java/lang/invoke/VarHandle" ∧ (parseMethodDescriptor yX3_init.desc).map (fun d => d.parameters.length) = some 0 := by decide +kernel
theorem kd_X4_init : yX4_init.cls ≠ "java/lang/invoke/MethodHandle" ∧ yX4_init.cls ≠ "java/lang/invoke/VarHandle" ∧ (parseMethodDescriptor yX4_init.desc).map (fun d => d.parameters.length) = some 0 := by decide +kernel
theorem kd_X5_init : yX5_init.cls ≠ "java/lang/invoke/MethodHandle" ∧ yX5_init.cls ≠ "java/lang/invoke/VarHandle" ∧ (parseMethodDescriptor yX5_init.desc).map (fun d => d.parameters.length) = some 0 := by decide +kernel
theorem hin_X0_init_RX0 : ∀ z ∈ u_ws RX0 TX0 6, z ∈ wsX0_init := by decide +kernel
theorem hin_X1_init_RX1 : ∀ z ∈ u_ws RX1 TX1 4, z ∈ wsX1_init := by decide +kernel
theorem hin_X2_init_RX2 : ∀ z ∈ u_ws RX2 TX2 5, z ∈ wsX2_init := by decide +kernel
theorem hin_X3_init_RX3 : ∀ z ∈ u_ws RX3 TX3 4, z ∈ wsX3_init := by decide +kernel
theorem hin_X4_init_RX4 : ∀ z ∈ u_ws RX4 TX4 4, z ∈ wsX4_init := by decide +kernel
theorem hin_X5_init_RX0 : ∀ z ∈ u_ws RX0 TX0 6, z ∈ wsX5_init := by decide +kernel
theorem hin_X5_init_RX1 : ∀ z ∈ u_ws RX1 TX1 4, z ∈ wsX5_init := by decide +kernel
theorem hin_X5_init_RX2 : ∀ z ∈ u_ws RX2 TX2 5, z ∈ wsX5_init := by decide +kernel
theorem hin_X5_init_RX3 : ∀ z ∈ u_ws RX3 TX3 4, z ∈ wsX5_init := by decide +kernel
theorem hin_X5_init_RX4 : ∀ z ∈ u_ws RX4 TX4 4, z ∈ wsX5_init := by decide +kernel
theorem hin_X5_init_RX5 : ∀ z ∈ u_ws RX5 TX5 5, z ∈ wsX5_init := by decide +kernel
theorem hin_X6_init_RX5 : ∀ z ∈ u_ws RX5 TX5 5, z ∈ wsX6_init := by decide +kernel
theorem hin_X6_init_RX6 : ∀ z ∈ u_ws RX6 TX6 8, z ∈ wsX6_init := by decide +kernel
def ks_z0 : Nat → Nat := fun _ => 0
def ks_P0 : Pg := (fun _ => 0, fun _ => 0, fun _ => 0, fun _ => 12, fun _ => false)
def ks_W0 : Wg := (fun _ => 1, fun _ => 1, fun _ => 1)
def ks_Q0 : Rg := (fun _ => 0, fun _ => 0, fun _ => 0)
def ks_iq (ad : Nat → Nat) (k : Nat) : Nat → Option Nat := fun i => if i < k then some (ad i) else none
theorem iq_0 {ad : Nat → Nat} {m : Nat} : ∀ i, i < m → (fun _ => none : Nat → Option Nat) i = ks_iq ad 0 i := fun i _ => by
  unfold ks_iq
  rw [if_neg (Nat.not_lt_zero i)]
theorem iq_step {ad : Nat → Nat} {k q m : Nat} : ∀ i, i < m → va_up (ks_iq ad k) k (some q) i = ks_iq (va_up ad k q) (k + 1) i := fun i _ => by
  unfold ks_iq
  by_cases h : i = k
  · subst h
    rw [va_up_self, if_pos (by omega), va_up_self]
  · rw [va_up_ne _ _ h]
    by_cases h1 : i < k
    · rw [if_pos h1, if_pos (by omega), va_up_ne _ _ h]
    · rw [if_neg h1, if_neg (by omega)]
theorem LI_init : ks_LI ks_P0 ks_W0 1 ks_z0 ks_z0 0 0 ks_Q0 0 0 (fun _ => 0) (fun _ => 0) (fun _ => 0) :=
  ⟨⟨fun _ _ => (show 0 < 4 by omega), fun _ _ => (show 0 < 3 by omega), fun _ _ => (show 0 < 10 by omega), fun _ _ => (show 12 ≤ 12 by omega)⟩, fun _ _ => ⟨(show 1 < 10 by omega), (show 1 < 10 by omega), (show 1 < 10 by omega)⟩, by decide, by decide, fun i h => absurd h (Nat.not_lt_zero i), fun i j h => absurd h (Nat.not_lt_zero i),
    ⟨fun i _ _ => hasB_0 i, fun j h => absurd h (Nat.not_lt_zero j), fun i _ h => by rw [hasB_0] at h; cases h⟩, fun _ => Nat.le_refl 0, fun _ _ => rfl, fun i h => absurd h (Nat.not_lt_zero i), by decide⟩
theorem nr_ini {k : Nat} : ∀ i, i < k + 1 → tl_up (ks_nr ks_P0) k (upd (upd (upd (upd (upd (upd (fun _ => (0 : Int32)) 0 (0 : Int32)) 1 (0 : Int32)) 2 (0 : Int32)) 3 (-1 : Int32)) 4 (-1 : Int32)) 5 (0 : Int32)) i = ks_nr ks_P0 i := fun i _ => by
  funext j
  unfold tl_up
  by_cases h : i = k
  · rw [if_pos h]
    by_cases e0 : j = 0
    · subst e0; rfl
    by_cases e1 : j = 1
    · subst e1; rfl
    by_cases e2 : j = 2
    · subst e2; rfl
    by_cases e3 : j = 3
    · subst e3; rfl
    by_cases e4 : j = 4
    · subst e4; rfl
    by_cases e5 : j = 5
    · subst e5; rfl
    unfold ks_nr
    rw [if_neg e0, if_neg e1, if_neg e2, if_neg e3, if_neg e4, if_neg e5]
    simp [upd, e0, e1, e2, e3, e4, e5]
  · rw [if_neg h]
theorem wr_ini {k : Nat} : ∀ i, i < k + 1 → tl_up (ks_wr ks_W0) k (upd (upd (upd (fun _ => (0 : Int32)) 0 (1 : Int32)) 1 (1 : Int32)) 2 (1 : Int32)) i = ks_wr ks_W0 i := fun i _ => by
  funext j
  unfold tl_up
  by_cases h : i = k
  · rw [if_pos h]
    by_cases e0 : j = 0
    · subst e0; rfl
    by_cases e1 : j = 1
    · subst e1; rfl
    by_cases e2 : j = 2
    · subst e2; rfl
    unfold ks_wr
    rw [if_neg e0, if_neg e1, if_neg e2]
    simp [upd, e0, e1, e2]
  · rw [if_neg h]
