/-! the class: relations -/
theorem hin_X3_add_RX3 : ∀ z ∈ u_ws RX3 TX3 4, z ∈ wsX3_add := by decide +kernel
theorem hin_X3_changed_RX3 : ∀ z ∈ u_ws RX3 TX3 4, z ∈ wsX3_changed := by decide +kernel
theorem ks_min9 {v : Nat} (h : v < 10) : (if (9 : Int32) < nI (v + 1) then (9 : Int32) else nI (v + 1)) = nI (if 9 < v + 1 then 9 else v + 1) := co64 (P := fun v => v < 10 → (if (9 : Int32) < nI (v + 1) then (9 : Int32) else nI (v + 1)) = nI (if 9 < v + 1 then 9 else v + 1)) (by decide +kernel) (show v < 64 by omega) h
