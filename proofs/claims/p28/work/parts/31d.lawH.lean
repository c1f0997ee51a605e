/-! the law: a case made -/

theorem LI_sd {P : Pg} {W : Wg} {sd sd' : Nat} {t mu : Nat → Nat} {n : Nat} {S : Int64} {Q : Rg} {rc ac : Nat} {f0 f1 : Nat → Int32} {F : Nat → Int64} (h : ks_LI P W sd t mu n S Q rc ac f0 f1 F) (hs : sd' < 10000) : ks_LI P W sd' t mu n S Q rc ac f0 f1 F := by
  obtain ⟨h1, h2, h3, h4, h5, h6, h7, h8, h9, h10, h11⟩ := h
  exact ⟨h1, h2, hs, h4, h5, h6, h7, h8, h9, h10, h11⟩
theorem LI_ao {P : Pg} {W : Wg} {sd : Nat} {t mu : Nat → Nat} {n : Nat} {S : Int64} {Q : Rg} {rc ac : Nat} {f0 f1 j0 j1 : Nat → Int32} {F JF : Nat → Int64} (h : ks_LI P W sd t mu n S Q rc ac f0 f1 F) (ha : ks_AO P t n j0 j1 JF) : ks_LI P W sd t mu n S Q rc ac j0 j1 JF := by
  obtain ⟨h1, h2, h3, h4, h5, h6, h7, h8, h9, h10, h11⟩ := h
  exact ⟨h1, h2, h3, h4, ha, h6, h7, h8, h9, h10, h11⟩
