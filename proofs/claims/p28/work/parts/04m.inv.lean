/-! what holds between the law's calls -/
def ks_LI (P : Pg) (W : Wg) (sd : Nat) (t mu : Nat → Nat) (n : Nat) (S : Int64) (Q : Rg) (rc ac : Nat) (f0 f1 : Nat → Int32) (F : Nat → Int64) : Prop :=
  ks_WP P ∧ ks_WW W ∧ sd < 10000 ∧ n ≤ 16 ∧ ks_AO P t n f0 f1 F ∧ ks_AP t n ∧ ks_I (ks_F P t) n S ∧ (∀ i, mu i ≤ ac) ∧ (∀ i, n ≤ i → mu i = 0) ∧ ks_RR Q rc ∧ rc ≤ 6
theorem I_taste {P : Pg} {t : Nat → Nat} {n ca : Nat} {S : Int64} (hn : n ≤ 40) (hI : ks_I (ks_F P t) n S) : ks_I (ks_F P (updN t n ca)) (ks_n2 P t n ca S) (ks_S2 P t n ca S) := by
  have hsame : ks_I (ks_F P (updN t n ca)) n S := by
    have hF : ∀ i, i < n → ks_F P (updN t n ca) i = ks_F P t i := fun i hi => by show ks_fd P (updN t n ca i) = ks_fd P (t i); rw [updN_ne (by omega)]
    have hlt : ∀ i, i < 64 → hasB S i = true → i < n := fun i h1 h2 => Nat.lt_of_not_le fun hle => by rw [hI.1 i hle h1] at h2; cases h2
    refine ⟨hI.1, fun j hj b hb h => ?_, fun i hi h => ?_⟩
    · rw [hF j hj] at h
      obtain ⟨k, h1, h2, h3⟩ := hI.2.1 j hj b hb h
      exact ⟨k, h1, h2, by rw [hF k (hlt k (by omega) h2)]; exact h3⟩
    · obtain ⟨b, hb, h1, h2⟩ := hI.2.2 i hi h
      exact ⟨b, hb, by rw [hF i (hlt i (by omega) h)]; exact h1, fun j h3 h4 h5 => by rw [hF j (hlt j (by omega) h5)]; exact h2 j h3 h4 h5⟩
  by_cases hm : ks_no t n ca < n
  · obtain ⟨e1, e2⟩ := S2_known (P := P) (S := S) hm
    rw [e1, e2]
    exact hsame
  · by_cases hz : ks_al (ks_F P (updN t n ca)) n S = 0
    · obtain ⟨e1, e2⟩ := S2_no hm hz
      rw [e1, e2]
      exact hsame
    · obtain ⟨e1, e2⟩ := S2_yes hn hI.1 hm hz
      have e0 : ks_S2 P t n ca S = ks_ta (ks_F P (updN t n ca)) n S := if_neg hm
      rw [e2, e0]
      exact (ks_ta_yes hn hsame hz).1
theorem AP_taste {P : Pg} {t : Nat → Nat} {n ca : Nat} {S : Int64} (hn : n ≤ 40) (hS : ks_SK n S) (h : ks_AP t n) : ks_AP (updN t n ca) (ks_n2 P t n ca S) := by
  have hsame : ks_AP (updN t n ca) n := fun i j hi hj e => by
    rw [updN_ne (by omega), updN_ne (by omega)] at e
    exact h i j hi hj e
  by_cases hm : ks_no t n ca < n
  · rw [(S2_known (P := P) (S := S) hm).2]; exact hsame
  · by_cases hz : ks_al (ks_F P (updN t n ca)) n S = 0
    · rw [(S2_no hm hz).2]; exact hsame
    · rw [(S2_yes hn hS hm hz).2]; exact AP_push h (ks_no_out hm)
theorem n2_le {P : Pg} {t : Nat → Nat} {n ca : Nat} {S : Int64} : n ≤ ks_n2 P t n ca S ∧ ks_n2 P t n ca S ≤ n + 1 := ks_tn_le _ _ _
/-- a case tasted: the state behind -/
theorem LI_taste {P : Pg} {W : Wg} {sd : Nat} {t mu : Nat → Nat} {n : Nat} {S : Int64} {Q : Rg} {rc ac ca : Nat} {f0 f1 j0 j1 : Nat → Int32} {F JF : Nat → Int64} (h : ks_LI P W sd t mu n S Q rc ac f0 f1 F) (hn : n ≤ 15) {sd' : Nat} (hsd : sd' < 10000) {mu' : Nat → Nat} {ac' : Nat} (hm1 : ∀ i, mu' i ≤ ac') (hm2 : ∀ i, n ≤ i → mu' i = 0) (hAO : ks_AO P (updN t n ca) (ks_n2 P t n ca S) j0 j1 JF) : ks_LI P W sd' (updN t n ca) mu' (ks_n2 P t n ca S) (ks_S2 P t n ca S) Q rc ac' j0 j1 JF := by
  obtain ⟨h1, h2, h3, h4, h5, h6, h7, h8, h9, h10, h11⟩ := h
  have hl := @n2_le P t n ca S
  exact ⟨h1, h2, hsd, by omega, hAO, AP_taste (by omega) h7.1 h6, I_taste (by omega) h7, hm1, fun i hi => hm2 i (by omega), h10, h11⟩
/-- the program changed: the state behind -/
theorem LI_change {P P2 : Pg} {W : Wg} {sd : Nat} {t mu : Nat → Nat} {n : Nat} {S : Int64} {Q : Rg} {rc ac ac' : Nat} {f0 f1 j1 : Nat → Int32} {F JF : Nat → Int64} (h : ks_LI P W sd t mu n S Q rc ac f0 f1 F) (hW : ks_WP P2) (hAO : ks_AO P2 t n f0 j1 JF) (hac : ac ≤ ac') : ks_LI P2 W sd t mu n (ks_ch (ks_F P2 t) n S) Q rc ac' f0 j1 JF := by
  obtain ⟨h1, h2, h3, h4, h5, h6, h7, h8, h9, h10, h11⟩ := h
  exact ⟨hW, h2, h3, h4, hAO, h6, ks_ch_I (by omega) h7.1, fun i => Nat.le_trans (h8 i) hac, h9, h10, h11⟩
theorem rr_push {Q : Rg} {rc a b c : Nat} : ∀ i, i < rc + 1 → tl_up (ks_rr Q) rc (upd (upd (upd (fun _ => (0 : Int32)) 0 (nI a)) 1 (nI b)) 2 (nI c)) i = ks_rr (ks_setR Q rc a b c) i := fun i _ => by
  funext j
  by_cases h : i = rc
  · subst h
    by_cases e0 : j = 0
    · subst e0; simp [tl_up, upd, ks_rr, ks_setR, updN]
    · by_cases e1 : j = 1
      · subst e1; simp [tl_up, upd, ks_rr, ks_setR, updN]
      · by_cases e2 : j = 2
        · subst e2; simp [tl_up, upd, ks_rr, ks_setR, updN]
        · simp [tl_up, upd, ks_rr, e0, e1, e2]
  · simp [tl_up, ks_rr, ks_setR, updN, h]
/-- some kept one: there is a best -/
theorem be_pos {F : Nat → Int64} {S : Int64} {mu : Nat → Nat} {n : Nat} (hn : n ≤ 40) (hS : ks_SK n S) (h : ¬ ks_bc S = 0) : 0 < (ks_be F S mu n).1 := by
  have key : ∀ k, (∃ i, i < k ∧ hasB S i = true) → 0 < (ks_be F S mu k).1 := by
    intro k
    induction k with
    | zero => rintro ⟨i, hi, -⟩; exact absurd hi (Nat.not_lt_zero i)
    | succ k ih =>
      rintro ⟨i, hi, h1⟩
      unfold ks_be
      by_cases hc : (hasB S k && decide ((ks_be F S mu k).2 < ks_en F S mu k + 1)) = true
      · rw [if_pos hc]
        exact Nat.succ_pos k
      · rw [if_neg hc]
        by_cases hik : i = k
        · subst hik
          apply Classical.byContradiction
          intro hz
          have h2 : ∀ k, (ks_be F S mu k).1 = 0 → (ks_be F S mu k).2 = 0 := by
            intro k
            induction k with
            | zero => intro _; rfl
            | succ k ih2 =>
              intro h3
              unfold ks_be at h3 ⊢
              split at h3
              · cases h3
              · rename_i h4
                rw [if_neg h4]
                exact ih2 h3
          have h5 := h2 i (by omega)
          apply hc
          rw [h1, h5, decide_eq_true (Nat.succ_pos _)]
          rfl
        · exact ih ⟨i, by omega, h1⟩
  apply key
  rw [ks_bc_0] at h
  obtain ⟨b, hb, h1⟩ := hb_ne0 h
  refine ⟨b, Nat.lt_of_not_le fun hle => ?_, h1⟩
  rw [hS b hle hb] at h1
  cases h1
