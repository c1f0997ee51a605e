/-! ends of a road, as the walks meet them -/
theorem fw_A {P : Pg} {t k : Nat} (hk : k ≤ 30) (ha : ∀ j, j < k → ks_go P (ks_nd P t j) = true) (hn : ¬ ks_nd P t k < 12) : k = ks_st P t ∧ ks_rI k (ks_rk P t k) = nI (ks_rs P t) ∧ ks_fk P t k = ks_fd P t := by
  obtain ⟨e1, e2, e3, e4⟩ := ks_end hk ha (Or.inr (ks_go_no hn))
  have hk0 : k ≠ 0 := by rintro rfl; exact hn (by show (0 : Nat) < 12; omega)
  refine ⟨e3.symm, ?_, ?_⟩
  · unfold ks_rI ks_rs
    rw [if_neg hk0, e1, if_neg hn, e4]
  · unfold ks_fd
    rw [e1, if_neg hn, e2]
theorem fw_B {P : Pg} {t k : Nat} (hk : k ≤ 30) (ha : ∀ j, j < k → ks_go P (ks_nd P t j) = true) (hn : ks_nd P t k < 12) (hb : P.2.2.2.2 (ks_nd P t k) = true) : k = ks_st P t ∧ 100 + ks_nd P t k = ks_rs P t ∧ (ks_fk P t k ||| lShl 1 (nI (24 + ks_nd P t k))) = ks_fd P t := by
  obtain ⟨e1, e2, e3, e4⟩ := ks_end hk ha (Or.inr (ks_go_bad hb))
  have hf : ks_fl P (ks_nd P t k) = ks_nd P t k := by unfold ks_fl; rw [hb]; rfl
  refine ⟨e3.symm, ?_, ?_⟩
  · unfold ks_rs
    rw [e1, if_pos hn, hf]
  · unfold ks_fd
    rw [e1, if_pos hn, e2, hf]
theorem fw_C {P : Pg} {t k : Nat} (hk : k = 30) (ha : ∀ j, j < k → ks_go P (ks_nd P t j) = true) (hn : ks_nd P t k < 12) (hb : P.2.2.2.2 (ks_nd P t k) = false) : k = ks_st P t ∧ 112 = ks_rs P t ∧ (ks_fk P t k ||| lShl 1 (nI (24 + 12))) = ks_fd P t := by
  subst hk
  obtain ⟨e1, e2, e3, e4⟩ := ks_end (Nat.le_refl 30) ha (Or.inl rfl)
  have hf : ks_fl P (ks_nd P t 30) = 12 := by unfold ks_fl; rw [hb]; rfl
  refine ⟨e3.symm, ?_, ?_⟩
  · unfold ks_rs
    rw [if_pos hn, hf]
  · unfold ks_fd
    rw [if_pos hn, hf]
theorem fw_rI {P : Pg} {t k : Nat} (h : ks_go P (ks_nd P t k) = true) : ks_rI (k + 1) (ks_rk P t (k + 1)) = nI (ks_ek P t k) := by
  rw [(ks_step h).2.2]
  rfl
theorem fw_ek1 {P : Pg} {t k : Nat} (h : ks_so P (ks_nd P t k) t = true) : nI (2 * ks_nd P t k) = nI (ks_ek P t k) := by
  unfold ks_ek ks_eg
  rw [h]
  rfl
theorem fw_ek0 {P : Pg} {t k : Nat} (h : ks_so P (ks_nd P t k) t = false) : nI (2 * ks_nd P t k + 1) = nI (ks_ek P t k) := by
  unfold ks_ek ks_eg
  rw [h]
  rfl
