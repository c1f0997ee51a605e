/-! tasting: what becomes of the archive's rows -/
theorem oI_m1 {n m : Nat} (hn : n ≤ 40) : ks_oI n m = -1 ↔ ¬ m < n := by
  unfold ks_oI
  constructor
  · intro h hm
    rw [if_pos hm] at h
    have : ∀ k, k < 64 → nI k = -1 → False := fun k hk => co64 (P := fun k => ¬ nI k = -1) (by decide +kernel) hk
    exact this m (by omega) h
  · intro h
    rw [if_neg h]
def ks_ka (t : Nat → Nat) (n ca : Nat) (f0 : Nat → Int32) : Nat → Int32 := if ks_no t n ca < n then f0 else upd f0 n (nI ca)
def ks_kr (t : Nat → Nat) (n ca : Nat) (f1 : Nat → Int32) (tr : Int32) : Nat → Int32 := if ks_no t n ca < n then f1 else upd f1 n tr
def ks_kf (t : Nat → Nat) (n ca : Nat) (F : Nat → Int64) (tf : Int64) : Nat → Int64 := if ks_no t n ca < n then F else vp_updL F n tf
def ks_kt (t : Nat → Nat) (n ca : Nat) (F : Nat → Int64) (tf S : Int64) : Int64 := if ks_no t n ca < n then S else ks_ta (vp_updL F n tf) n S
def ks_tn (T S : Int64) (n : Nat) : Nat := if T = S then n else n + 1
def ks_S2 (P : Pg) (t : Nat → Nat) (n ca : Nat) (S : Int64) : Int64 := if ks_no t n ca < n then S else ks_ta (ks_F P (updN t n ca)) n S
def ks_n2 (P : Pg) (t : Nat → Nat) (n ca : Nat) (S : Int64) : Nat := ks_tn (ks_S2 P t n ca S) S n
theorem ks_tn_le (T S : Int64) (n : Nat) : n ≤ ks_tn T S n ∧ ks_tn T S n ≤ n + 1 := by unfold ks_tn; split <;> omega
theorem ks_ta_cong {F G : Nat → Int64} {S : Int64} {n : Nat} (hn : n ≤ 40) (hS : ∀ i, n ≤ i → i < 64 → hasB S i = false) (hF : ∀ i, i ≤ n → F i = G i) : ks_ta F n S = ks_ta G n S := by
  unfold ks_ta
  rw [ks_al_cong hS (fun i hi => hF i (by omega)) (hF n (Nat.le_refl n)) (by omega)]
  rw [ks_nS_cong (n := n + 1) (by omega) (fun i h1 h2 => by rw [hb_pl (by omega) h2, hS i (by omega) h2, decide_eq_false (by omega)]; rfl) (fun i hi => hF i (by omega)) 41 (Nat.le_refl _)]
theorem kt_S2 {P : Pg} {t : Nat → Nat} {n ca : Nat} {f0 f1 : Nat → Int32} {F : Nat → Int64} {S : Int64} (hn : n ≤ 40) (hAO : ks_AO P t n f0 f1 F) (hS : ∀ i, n ≤ i → i < 64 → hasB S i = false) : ks_kt t n ca F (ks_fd P ca) S = ks_S2 P t n ca S := by
  unfold ks_kt ks_S2
  by_cases h : ks_no t n ca < n
  · rw [if_pos h, if_pos h]
  · rw [if_neg h, if_neg h]
    refine ks_ta_cong hn hS fun i hi => ?_
    by_cases e : i = n
    · subst e
      show vp_updL F i (ks_fd P ca) i = ks_fd P (updN t i ca i)
      rw [pk_uLs, updN_at]
    · show vp_updL F n (ks_fd P ca) i = ks_fd P (updN t n ca i)
      rw [pk_uLn e, updN_ne e]
      exact (hAO i (by omega)).2.2.2
theorem ao_2 {P : Pg} {t : Nat → Nat} {n ca : Nat} {f0 f1 : Nat → Int32} {F : Nat → Int64} {S : Int64} (hca : ca < 10000) (hAO : ks_AO P t n f0 f1 F) : ks_AO P (updN t n ca) (ks_n2 P t n ca S) (ks_ka t n ca f0) (ks_kr t n ca f1 (nI (ks_rs P ca))) (ks_kf t n ca F (ks_fd P ca)) := by
  intro i hi
  by_cases h : ks_no t n ca < n
  · have e2 : ks_n2 P t n ca S = n := by unfold ks_n2 ks_S2 ks_tn; rw [if_pos h, if_pos rfl]
    rw [e2] at hi
    rw [show ks_ka t n ca f0 = f0 from if_pos h, show ks_kr t n ca f1 (nI (ks_rs P ca)) = f1 from if_pos h, show ks_kf t n ca F (ks_fd P ca) = F from if_pos h, updN_ne (by omega)]
    exact hAO i hi
  · have hi2 := (ks_tn_le (ks_S2 P t n ca S) S n).2
    have hi3 : i < n + 1 := Nat.lt_of_lt_of_le hi hi2
    rw [show ks_ka t n ca f0 = upd f0 n (nI ca) from if_neg h, show ks_kr t n ca f1 (nI (ks_rs P ca)) = upd f1 n (nI (ks_rs P ca)) from if_neg h, show ks_kf t n ca F (ks_fd P ca) = vp_updL F n (ks_fd P ca) from if_neg h]
    by_cases e : i = n
    · subst e
      rw [pk_us, pk_us, pk_uLs, updN_at]
      exact ⟨rfl, hca, rfl, rfl⟩
    · rw [pk_un e, pk_un e, pk_uLn e, updN_ne e]
      exact hAO i (by omega)
theorem ao_ka {P : Pg} {t : Nat → Nat} {n ca : Nat} {f0 f1 : Nat → Int32} {F : Nat → Int64} {S : Int64} (hca : ca < 10000) (hAO : ks_AO P t n f0 f1 F) : ∀ i, i < ks_n2 P t n ca S → ks_ka t n ca f0 i = nI (updN t n ca i) ∧ updN t n ca i < 10000 := fun i hi => ⟨(ao_2 hca hAO i hi).1, (ao_2 hca hAO i hi).2.1⟩
/-- only looked at: the rows below n are the same -/
theorem ao_1 {P : Pg} {t : Nat → Nat} {n ca : Nat} {f0 f1 : Nat → Int32} {F : Nat → Int64} {tr : Int32} {tf : Int64} (hAO : ks_AO P t n f0 f1 F) : ks_AO P t n (ks_ka t n ca f0) (ks_kr t n ca f1 tr) (ks_kf t n ca F tf) := by
  intro i hi
  by_cases h : ks_no t n ca < n
  · rw [show ks_ka t n ca f0 = f0 from if_pos h, show ks_kr t n ca f1 tr = f1 from if_pos h, show ks_kf t n ca F tf = F from if_pos h]
    exact hAO i hi
  · rw [show ks_ka t n ca f0 = upd f0 n (nI ca) from if_neg h, show ks_kr t n ca f1 tr = upd f1 n tr from if_neg h, show ks_kf t n ca F tf = vp_updL F n tf from if_neg h, pk_un (by omega), pk_un (by omega), pk_uLn (by omega)]
    exact hAO i hi
/-- the rows run anew, up to k -/
theorem ao_step {P : Pg} {t : Nat → Nat} {k : Nat} {f0 f1 : Nat → Int32} {F : Nat → Int64} (h : ks_AO P t k f0 f1 F) (h0 : f0 k = nI (t k)) (h1 : t k < 10000) : ks_AO P t (k + 1) f0 (upd f1 k (nI (ks_rs P (t k)))) (vp_updL F k (ks_fd P (t k))) := by
  intro i hi
  by_cases e : i = k
  · subst e
    rw [pk_us, pk_uLs]
    exact ⟨h0, h1, rfl, rfl⟩
  · rw [pk_un e, pk_uLn e]
    exact h i (by omega)
theorem ao_F {P : Pg} {t : Nat → Nat} {n : Nat} {f0 f1 : Nat → Int32} {F : Nat → Int64} (h : ks_AO P t n f0 f1 F) : ∀ i, i < n → F i = ks_F P t i := fun i hi => (h i hi).2.2.2
