/-! words for the answers of the class -/
def ks_SK (n : Nat) (S : Int64) : Prop := ∀ i, n ≤ i → i < 64 → hasB S i = false
/-- who breaks a relation first -/
def ks_bb (P : Pg) (Q : Rg) (t : Nat → Nat) (n r : Nat) : Nat := fa_first (fun k => decide (¬ ks_rs P (t k) = ks_rs P (ks_cg Q r (t k)))) n
theorem ks_first_at {p : Nat → Bool} {n k : Nat} (hk : k < n) (h1 : ∀ j, j < k → p j = false) (h2 : p k = true) : fa_first p n = k := by
  have hle := fa_first_le p n
  have h3 : ¬ fa_first p n < k := fun h => by
    have := fa_first_yes p n (by omega)
    rw [h1 _ h] at this
    cases this
  have h4 : ¬ k < fa_first p n := fun h => by
    rw [fa_first_no p n k h] at h2
    cases h2
  omega
theorem ks_first_none {p : Nat → Bool} {n : Nat} (h1 : ∀ j, j < n → p j = false) : fa_first p n = n := by
  have hle := fa_first_le p n
  have h3 : ¬ fa_first p n < n := fun h => by
    have := fa_first_yes p n h
    rw [h1 _ h] at this
    cases this
  omega
/-- would-be droppings -/
def ks_wd (T S : Int64) : Int32 := if T = S then -1 else nI (ks_bc (S &&& (T ^^^ (-1))))
/-- the fewest that cover -/
def ks_ff (F : Nat → Int64) (n : Nat) : Nat → Nat → Int64 → Nat → Nat → Nat
  | 0, _, o, u, b => if o = 0 then (if b < u then b else u) else b
  | d + 1, k, o, u, b => if o = 0 then (if b < u then b else u) else if n ≤ k ∨ 12 ≤ k ∨ ¬ u + 1 < b then b else ks_ff F n d (k + 1) o u (if F k &&& o = 0 then b else ks_ff F n d (k + 1) (o &&& (F k ^^^ (-1))) (u + 1) b)
theorem ks_ff_le (F : Nat → Int64) (n : Nat) : ∀ (d k : Nat) (o : Int64) (u b : Nat), ks_ff F n d k o u b ≤ b
  | 0, k, o, u, b => by unfold ks_ff; split <;> (try split) <;> omega
  | d + 1, k, o, u, b => by
    unfold ks_ff
    split
    · split <;> omega
    · split
      · exact Nat.le_refl b
      · refine Nat.le_trans (ks_ff_le F n d _ _ _ _) ?_
        split
        · exact Nat.le_refl b
        · exact ks_ff_le F n d _ _ _ _
/-- outcomes ahead -/
def ks_ap (P : Pg) (W : Wg) (sd : Nat) : Nat → Int64 × Nat
  | 0 => (0, sd)
  | i + 1 => ((ks_ap P W sd i).1 ||| lShl 1 (nI (ks_oc (ks_rs P (ks_nc W (ks_ap P W sd i).2).1))), (ks_nc W (ks_ap P W sd i).2).2)
theorem ks_ap_lt {P : Pg} {W : Wg} {sd : Nat} (h : sd < 10000) : ∀ i, (ks_ap P W sd i).2 < 10000
  | 0 => h
  | i + 1 => (ks_nc_lt (ks_ap_lt h i)).2
theorem ks_oc_lt {r : Nat} (h : r ≤ 112) (h2 : r < 100 → r < 24) : ks_oc r < 37 := by unfold ks_oc; split <;> omega
theorem ks_rs_low {P : Pg} {t : Nat} (h : ks_rs P t < 100) : ks_rs P t < 24 := by
  obtain ⟨-, k, hk, e⟩ := ks_rs_edge h
  rw [e]
  exact (ks_ek_lt (by omega)).1
theorem ks_oc_rs {P : Pg} {t : Nat} (hW : ks_WP P) : ks_oc (ks_rs P t) < 37 := ks_oc_lt (ks_rs_lt hW) ks_rs_low
/-- what shrinking a slot does -/
def ks_sf (P : Pg) (t s r : Nat) : Nat := fa_first (fun v => decide (ks_rs P (ks_wv t s v) = r)) (ks_dg t s)
def ks_sa (P : Pg) (t s r : Nat) : Nat := if ks_sf P t s r < ks_dg t s then ks_wv t s (ks_sf P t s r) else t
theorem ks_wv_down {t s v : Nat} (h : v < ks_dg t s) : ks_wv t s v < t := by
  have h1 := ks_dg_le (t := t) s
  have h2 : 0 < ks_pw s := by unfold ks_pw; split <;> (try split) <;> (try split) <;> omega
  have h3 : v * ks_pw s < ks_dg t s * ks_pw s := Nat.mul_lt_mul_of_pos_right h h2
  unfold ks_wv
  omega
theorem ks_sa_le {P : Pg} {t s r : Nat} : ks_sa P t s r ≤ t := by
  unfold ks_sa
  split
  · exact Nat.le_of_lt (ks_wv_down (by assumption))
  · exact Nat.le_refl t
theorem ks_sa_rs {P : Pg} {t s r : Nat} (h : ks_rs P t = r) : ks_rs P (ks_sa P t s r) = r := by
  unfold ks_sa
  split
  · rename_i h1
    exact of_decide_eq_true (fa_first_yes (fun v => decide (ks_rs P (ks_wv t s v) = r)) (ks_dg t s) h1)
  · exact h
theorem ks_sa_no {P : Pg} {t s r : Nat} (h : ks_sa P t s r = t) : ∀ w, w < ks_dg t s → ¬ ks_rs P (ks_wv t s w) = r := fun w hw e => by
  unfold ks_sa at h
  split at h
  · rename_i h1
    have := ks_wv_down h1
    omega
  · rename_i h1
    have hle : ks_sf P t s r ≤ ks_dg t s := fa_first_le _ _
    have := fa_first_no (fun v => decide (ks_rs P (ks_wv t s v) = r)) (ks_dg t s) w (by show w < ks_sf P t s r; omega)
    rw [decide_eq_true e] at this
    cases this
