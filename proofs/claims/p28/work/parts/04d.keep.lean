/-! what is kept: sets over known cases with finds F -/
def ks_mi (S : Int64) (i : Nat) : Int64 := S &&& (lShl 1 (nI i) ^^^ (-1))
theorem hb_mi {S : Int64} {i k : Nat} (hi : i < 64) (hk : k < 64) : hasB (ks_mi S i) k = (hasB S k && !decide (i = k)) := by
  unfold ks_mi
  rw [hb_and hk, hb_not hk, hb_one hi hk]
theorem hb_pl {S : Int64} {i k : Nat} (hi : i < 64) (hk : k < 64) : hasB (S ||| lShl 1 (nI i)) k = (hasB S k || decide (i = k)) := by rw [hb_or hk, hb_one hi hk]
def ks_fb (F : Nat → Int64) (S : Int64) : Nat → Int64
  | 0 => 0
  | k + 1 => if hasB S k then ks_fb F S k ||| F k else ks_fb F S k
theorem ks_fb_bit {F : Nat → Int64} {S : Int64} {b : Nat} (hb : b < 64) : ∀ k, hasB (ks_fb F S k) b = true ↔ ∃ j, j < k ∧ hasB S j = true ∧ hasB (F j) b = true
  | 0 => by
    rw [show ks_fb F S 0 = 0 from rfl, hasB_0]
    constructor
    · intro h; cases h
    · rintro ⟨j, hj, -⟩; exact absurd hj (Nat.not_lt_zero _)
  | k + 1 => by
    have ih := ks_fb_bit (F := F) (S := S) hb k
    unfold ks_fb
    cases hg : hasB S k with
    | false =>
      rw [if_neg (by simp), ih]
      constructor
      · rintro ⟨j, h1, h2⟩; exact ⟨j, by omega, h2⟩
      · rintro ⟨j, h1, h2, h3⟩
        by_cases hjk : j = k
        · subst hjk; rw [hg] at h2; cases h2
        · exact ⟨j, by omega, h2, h3⟩
    | true =>
      rw [if_pos rfl, hb_or hb, Bool.or_eq_true, ih]
      constructor
      · rintro (⟨j, h1, h2⟩ | h)
        · exact ⟨j, by omega, h2⟩
        · exact ⟨k, by omega, hg, h⟩
      · rintro ⟨j, h1, h2, h3⟩
        by_cases hjk : j = k
        · subst hjk; exact Or.inr h3
        · exact Or.inl ⟨j, by omega, h2, h3⟩
/-- the loop may end early: nothing of the set is left -/
theorem ks_fb_stop {F : Nat → Int64} {S : Int64} {k : Nat} (h : ∀ j, k ≤ j → j < 41 → hasB S j = false) : ∀ d, k + d ≤ 41 → ks_fb F S (k + d) = ks_fb F S k
  | 0, _ => rfl
  | d + 1, hd => by
    show (if hasB S (k + d) then ks_fb F S (k + d) ||| F (k + d) else ks_fb F S (k + d)) = _
    rw [h (k + d) (by omega) (by omega), if_neg (by simp)]
    exact ks_fb_stop h d (by omega)
def ks_al (F : Nat → Int64) (i : Nat) (S : Int64) : Int64 := F i &&& (ks_fb F (ks_mi S i) 41 ^^^ (-1))
/-- i is needed: it has what no other one kept has -/
def ks_Need (F : Nat → Int64) (S : Int64) (i : Nat) : Prop := ∃ b, b < 64 ∧ hasB (F i) b = true ∧ ∀ j, j < 41 → j ≠ i → hasB S j = true → hasB (F j) b = false
def ks_Cov (F : Nat → Int64) (S : Int64) (b : Nat) : Prop := ∃ j, j < 41 ∧ hasB S j = true ∧ hasB (F j) b = true
theorem ks_al_bit {F : Nat → Int64} {S : Int64} {i b : Nat} (hi : i < 41) (hb : b < 64) : hasB (ks_al F i S) b = true ↔ hasB (F i) b = true ∧ ∀ j, j < 41 → j ≠ i → hasB S j = true → hasB (F j) b = false := by
  unfold ks_al
  rw [hb_and hb, hb_not hb, Bool.and_eq_true, Bool.not_eq_true']
  constructor
  · rintro ⟨h1, h2⟩
    refine ⟨h1, fun j hj hji hS => ?_⟩
    cases hc : hasB (F j) b with
    | false => rfl
    | true =>
      have : hasB (ks_fb F (ks_mi S i) 41) b = true := (ks_fb_bit hb 41).mpr ⟨j, hj, by rw [hb_mi (by omega) (by omega), hS, decide_eq_false (fun e => hji e.symm)]; rfl, hc⟩
      rw [h2] at this
      cases this
  · rintro ⟨h1, h2⟩
    refine ⟨h1, ?_⟩
    cases hc : hasB (ks_fb F (ks_mi S i) 41) b with
    | false => rfl
    | true =>
      obtain ⟨j, hj, h3, h4⟩ := (ks_fb_bit hb 41).mp hc
      rw [hb_mi (by omega) (by omega), Bool.and_eq_true, Bool.not_eq_true', decide_eq_false_iff_not] at h3
      rw [h2 j hj (fun e => h3.2 e.symm) h3.1] at h4
      cases h4
theorem ks_al_need {F : Nat → Int64} {S : Int64} {i : Nat} (hi : i < 41) : ks_al F i S ≠ 0 ↔ ks_Need F S i := by
  constructor
  · intro h
    obtain ⟨b, hb, h1⟩ := hb_ne0 h
    obtain ⟨h2, h3⟩ := (ks_al_bit hi hb).mp h1
    exact ⟨b, hb, h2, h3⟩
  · rintro ⟨b, hb, h2, h3⟩ h
    have := (ks_al_bit hi hb).mpr ⟨h2, h3⟩
    rw [h, hasB_0] at this
    cases this
theorem ks_need_anti {F : Nat → Int64} {S S' : Int64} {i : Nat} (h : ∀ j, j < 41 → j ≠ i → hasB S' j = true → hasB S j = true) (hn : ks_Need F S i) : ks_Need F S' i := by
  obtain ⟨b, hb, h1, h2⟩ := hn
  exact ⟨b, hb, h1, fun j hj hji hS => h2 j hj hji (h j hj hji hS)⟩
theorem ks_other {F : Nat → Int64} {S : Int64} {i : Nat} (hn : ¬ ks_Need F S i) {b : Nat} (hb : b < 64) (ht : hasB (F i) b = true) : ∃ j, j < 41 ∧ j ≠ i ∧ hasB S j = true ∧ hasB (F j) b = true := by
  apply Classical.byContradiction
  intro h
  refine hn ⟨b, hb, ht, fun j hj hji hS => ?_⟩
  cases hc : hasB (F j) b with
  | false => rfl
  | true => exact absurd ⟨j, hj, hji, hS, hc⟩ h
/-- the run that drops -/
def ks_nS (F : Nat → Int64) (S : Int64) : Nat → Int64
  | 0 => S
  | k + 1 => if hasB (ks_nS F S k) k && decide (ks_al F k (ks_nS F S k) = 0) then ks_mi (ks_nS F S k) k else ks_nS F S k
/-- the run that takes back in, over the known ones -/
def ks_sS (F : Nat → Int64) (S : Int64) : Nat → Int64
  | 0 => S
  | k + 1 => if !hasB (ks_sS F S k) k && !decide (ks_al F k (ks_sS F S k) = 0) then ks_sS F S k ||| lShl 1 (nI k) else ks_sS F S k
def ks_ch (F : Nat → Int64) (n : Nat) (S : Int64) : Int64 := ks_nS F (ks_sS F S n) 41
theorem ks_nS_bit {F : Nat → Int64} {S : Int64} {k i : Nat} (hk : k < 41) (hi : i < 64) : hasB (ks_nS F S (k + 1)) i = (hasB (ks_nS F S k) i && !(decide (k = i) && decide (ks_al F k (ks_nS F S k) = 0))) := by
  show hasB (if hasB (ks_nS F S k) k && decide (ks_al F k (ks_nS F S k) = 0) then ks_mi (ks_nS F S k) k else ks_nS F S k) i = _
  by_cases h : (hasB (ks_nS F S k) k && decide (ks_al F k (ks_nS F S k) = 0)) = true
  · rw [if_pos h, hb_mi (by omega) hi]
    rw [Bool.and_eq_true] at h
    rw [h.2, Bool.and_true]
  · rw [if_neg h]
    by_cases e : k = i
    · subst e
      rw [decide_eq_true rfl, Bool.true_and]
      cases h1 : hasB (ks_nS F S k) k with
      | false => rfl
      | true =>
        rw [h1, Bool.true_and] at h
        rw [Bool.not_eq_true] at h
        rw [h]; rfl
    · rw [decide_eq_false e, Bool.false_and, Bool.not_false, Bool.and_true]
theorem ks_nS_le {F : Nat → Int64} {S : Int64} {i : Nat} (hi : i < 64) : ∀ (m : Nat), m ≤ 41 → hasB (ks_nS F S m) i = true → hasB S i = true
  | 0, _, h => h
  | m + 1, hm, h => by
    rw [ks_nS_bit (by omega) hi, Bool.and_eq_true] at h
    exact ks_nS_le hi m (by omega) h.1
theorem ks_nS_ne {F : Nat → Int64} {S : Int64} {i k : Nat} (hk : k < 41) (hi : i < 64) (h : i ≠ k) : hasB (ks_nS F S (k + 1)) i = hasB (ks_nS F S k) i := by
  rw [ks_nS_bit hk hi, decide_eq_false (fun e => h e.symm), Bool.false_and, Bool.not_false, Bool.and_true]
theorem ks_nS_cov1 {F : Nat → Int64} {S : Int64} {k b : Nat} (hk : k < 41) (hb : b < 64) : ks_Cov F (ks_nS F S (k + 1)) b ↔ ks_Cov F (ks_nS F S k) b := by
  constructor
  · rintro ⟨j, hj, h1, h2⟩
    rw [ks_nS_bit hk (by omega), Bool.and_eq_true] at h1
    exact ⟨j, hj, h1.1, h2⟩
  · rintro ⟨j, hj, h1, h2⟩
    by_cases hjk : j = k
    · subst hjk
      by_cases hz : ks_al F j (ks_nS F S j) = 0
      · obtain ⟨i, hi, h3, h4, h5⟩ := ks_other (fun hn => (ks_al_need hj).mpr hn hz) hb h2
        exact ⟨i, hi, by rw [ks_nS_ne hj (by omega) h3]; exact h4, h5⟩
      · refine ⟨j, hj, ?_, h2⟩
        rw [ks_nS_bit hj (by omega), h1, decide_eq_false hz, Bool.and_false]
        rfl
    · exact ⟨j, hj, by rw [ks_nS_ne hk (by omega) hjk]; exact h1, h2⟩
theorem ks_nS_cov {F : Nat → Int64} {S : Int64} {b : Nat} (hb : b < 64) : ∀ (m : Nat), m ≤ 41 → (ks_Cov F (ks_nS F S m) b ↔ ks_Cov F S b)
  | 0, _ => Iff.rfl
  | m + 1, h => (ks_nS_cov1 (by omega) hb).trans (ks_nS_cov hb m (by omega))
theorem ks_nS_need {F : Nat → Int64} {S : Int64} : ∀ (m : Nat), m ≤ 41 → ∀ i, i < m → hasB (ks_nS F S m) i = true → ks_Need F (ks_nS F S m) i
  | 0, _, i, h, _ => absurd h (Nat.not_lt_zero i)
  | m + 1, hm, i, hi, hk => by
    have hk0 := hk
    rw [ks_nS_bit (by omega) (by omega), Bool.and_eq_true] at hk0
    have h0 : ks_Need F (ks_nS F S m) i := by
      by_cases him : i = m
      · subst him
        have hz := hk0.2
        rw [decide_eq_true rfl, Bool.true_and, Bool.not_eq_true', decide_eq_false_iff_not] at hz
        exact (ks_al_need (by omega)).mp hz
      · exact ks_nS_need m (by omega) i (by omega) hk0.1
    refine ks_need_anti (fun j hj _ h => ?_) h0
    rw [ks_nS_bit (by omega) (by omega), Bool.and_eq_true] at h
    exact h.1
theorem ks_nS_id {F : Nat → Int64} {S : Int64} (h : ∀ i, i < 41 → hasB S i = true → ks_Need F S i) : ∀ (m : Nat), m ≤ 41 → ks_nS F S m = S
  | 0, _ => rfl
  | m + 1, hm => by
    show (if hasB (ks_nS F S m) m && decide (ks_al F m (ks_nS F S m) = 0) then ks_mi (ks_nS F S m) m else ks_nS F S m) = S
    rw [ks_nS_id h m (by omega)]
    by_cases hk : hasB S m = true
    · rw [decide_eq_false ((ks_al_need (by omega)).mpr (h m (by omega) hk)), Bool.and_false, if_neg (by simp)]
    · rw [Bool.not_eq_true] at hk
      rw [hk, Bool.false_and, if_neg (by simp)]
theorem ks_sS_bit {F : Nat → Int64} {S : Int64} {k i : Nat} (hk : k < 41) (hi : i < 64) : hasB (ks_sS F S (k + 1)) i = (hasB (ks_sS F S k) i || (decide (k = i) && !decide (ks_al F k (ks_sS F S k) = 0))) := by
  show hasB (if !hasB (ks_sS F S k) k && !decide (ks_al F k (ks_sS F S k) = 0) then ks_sS F S k ||| lShl 1 (nI k) else ks_sS F S k) i = _
  by_cases h : (!hasB (ks_sS F S k) k && !decide (ks_al F k (ks_sS F S k) = 0)) = true
  · rw [if_pos h, hb_pl (by omega) hi]
    rw [Bool.and_eq_true] at h
    rw [h.2, Bool.and_true]
  · rw [if_neg h]
    by_cases e : k = i
    · subst e
      rw [decide_eq_true rfl, Bool.true_and]
      cases h1 : hasB (ks_sS F S k) k with
      | true => rfl
      | false =>
        rw [h1, Bool.not_false, Bool.true_and] at h
        rw [Bool.not_eq_true] at h
        rw [h]; rfl
    · rw [decide_eq_false e, Bool.false_and, Bool.or_false]
theorem ks_sS_ge {F : Nat → Int64} {S : Int64} {i : Nat} (hi : i < 64) : ∀ (m : Nat), m ≤ 41 → hasB S i = true → hasB (ks_sS F S m) i = true
  | 0, _, h => h
  | m + 1, hm, h => by rw [ks_sS_bit (by omega) hi, ks_sS_ge hi m (by omega) h, Bool.true_or]
theorem ks_sS_hi {F : Nat → Int64} {S : Int64} {i : Nat} (hi : i < 64) : ∀ (m : Nat), m ≤ 41 → m ≤ i → hasB (ks_sS F S m) i = hasB S i
  | 0, _, _ => rfl
  | m + 1, hm, h => by rw [ks_sS_bit (by omega) hi, ks_sS_hi hi m (by omega) (by omega), decide_eq_false (by omega), Bool.false_and, Bool.or_false]
theorem ks_sS_cov {F : Nat → Int64} {S : Int64} : ∀ (m : Nat), m ≤ 41 → ∀ j, j < m → ∀ b, b < 64 → hasB (F j) b = true → ks_Cov F (ks_sS F S m) b
  | 0, _, j, h, _, _, _ => absurd h (Nat.not_lt_zero j)
  | m + 1, hm, j, hj, b, hb, ht => by
    have up : ∀ b, ks_Cov F (ks_sS F S m) b → ks_Cov F (ks_sS F S (m + 1)) b := fun b ⟨i, a, c, d⟩ => ⟨i, a, by rw [ks_sS_bit (by omega) (by omega), c, Bool.true_or], d⟩
    by_cases hjm : j = m
    · subst hjm
      by_cases hk : hasB (ks_sS F S j) j = true
      · exact up b ⟨j, by omega, hk, ht⟩
      · by_cases hz : ks_al F j (ks_sS F S j) = 0
        · obtain ⟨i, hi, h3, h4, h5⟩ := ks_other (fun hn => (ks_al_need (by omega)).mpr hn hz) hb ht
          exact up b ⟨i, hi, h4, h5⟩
        · refine ⟨j, by omega, ?_, ht⟩
          rw [ks_sS_bit (by omega) (by omega), decide_eq_true rfl, decide_eq_false hz]
          simp
    · exact up b (ks_sS_cov m (by omega) j (by omega) b hb ht)
theorem ks_sS_id {F : Nat → Int64} {S : Int64} {n : Nat} (hn : n ≤ 41) (h : ∀ j, j < n → ∀ b, b < 64 → hasB (F j) b = true → ks_Cov F S b) : ∀ (m : Nat), m ≤ n → ks_sS F S m = S
  | 0, _ => rfl
  | m + 1, hm => by
    show (if !hasB (ks_sS F S m) m && !decide (ks_al F m (ks_sS F S m) = 0) then ks_sS F S m ||| lShl 1 (nI m) else ks_sS F S m) = S
    rw [ks_sS_id hn h m (by omega)]
    by_cases hk : hasB S m = true
    · rw [hk, if_neg (by simp)]
    · have hz : ks_al F m S = 0 := by
        apply Classical.byContradiction
        intro hne
        obtain ⟨b, hb, h1, h2⟩ := (ks_al_need (by omega)).mp hne
        obtain ⟨j, a, c, d⟩ := h m (by omega) b hb h1
        rw [h2 j a (fun e => hk (e ▸ c)) c] at d
        cases d
      rw [decide_eq_true hz, if_neg (by simp)]
/-- the state of what is kept: only known ones, they cover all that known ones have, each is needed -/
def ks_I (F : Nat → Int64) (n : Nat) (S : Int64) : Prop := (∀ i, n ≤ i → i < 64 → hasB S i = false) ∧ (∀ j, j < n → ∀ b, b < 64 → hasB (F j) b = true → ks_Cov F S b) ∧ ∀ i, i < 41 → hasB S i = true → ks_Need F S i
theorem ks_ch_hi {F : Nat → Int64} {n : Nat} {S : Int64} (hn : n ≤ 40) (h : ∀ i, n ≤ i → i < 64 → hasB S i = false) : ∀ i, n ≤ i → i < 64 → hasB (ks_ch F n S) i = false := fun i h1 h2 => by
  cases hc : hasB (ks_ch F n S) i with
  | false => rfl
  | true =>
    have := ks_nS_le h2 41 (Nat.le_refl _) hc
    rw [ks_sS_hi h2 n (by omega) h1, h i h1 h2] at this
    cases this
theorem ks_ch_I {F : Nat → Int64} {n : Nat} {S : Int64} (hn : n ≤ 40) (h : ∀ i, n ≤ i → i < 64 → hasB S i = false) : ks_I F n (ks_ch F n S) :=
  ⟨ks_ch_hi hn h, fun j hj b hb ht => (ks_nS_cov hb 41 (Nat.le_refl _)).mpr (ks_sS_cov n (by omega) j hj b hb ht), fun i hi hS => ks_nS_need 41 (Nat.le_refl _) i hi hS⟩
theorem ks_ch_id {F : Nat → Int64} {n : Nat} {S : Int64} (hn : n ≤ 40) (h : ks_I F n S) : ks_ch F n S = S := by
  unfold ks_ch
  rw [ks_sS_id (n := n) (by omega) h.2.1 n (Nat.le_refl _), ks_nS_id h.2.2 41 (Nat.le_refl _)]
/-- the same finds below n: the same -/
theorem ks_fb_cong {F G : Nat → Int64} {S : Int64} : ∀ (k : Nat), (∀ i, i < k → hasB S i = true → F i = G i) → ks_fb F S k = ks_fb G S k
  | 0, _ => rfl
  | k + 1, h => by
    unfold ks_fb
    rw [ks_fb_cong k (fun i hi => h i (by omega))]
    cases hc : hasB S k with
    | false => rfl
    | true => rw [h k (by omega) hc]
theorem ks_al_cong {F G : Nat → Int64} {S : Int64} {n i : Nat} (hS : ∀ i, n ≤ i → i < 64 → hasB S i = false) (hF : ∀ i, i < n → F i = G i) (hi : F i = G i) (hi2 : i < 64) : ks_al F i S = ks_al G i S := by
  unfold ks_al
  rw [hi, ks_fb_cong 41 (fun j hj hb => ?_)]
  rw [hb_mi hi2 (by omega), Bool.and_eq_true] at hb
  by_cases hjn : j < n
  · exact hF j hjn
  · rw [hS j (by omega) (by omega)] at hb
    cases hb.1
theorem ks_nS_cong {F G : Nat → Int64} {S : Int64} {n : Nat} (hn : n ≤ 41) (hS : ∀ i, n ≤ i → i < 64 → hasB S i = false) (hF : ∀ i, i < n → F i = G i) : ∀ (m : Nat), m ≤ 41 → ks_nS F S m = ks_nS G S m
  | 0, _ => rfl
  | m + 1, hm => by
    have hS2 : ∀ i, n ≤ i → i < 64 → hasB (ks_nS G S m) i = false := fun i h1 h2 => by
      cases hc : hasB (ks_nS G S m) i with
      | false => rfl
      | true =>
        have := ks_nS_le h2 m (by omega) hc
        rw [hS i h1 h2] at this
        cases this
    unfold ks_nS
    rw [ks_nS_cong hn hS hF m (by omega)]
    by_cases hmn : m < n
    · rw [ks_al_cong hS2 hF (hF m hmn) (by omega)]
    · rw [hS2 m (by omega) (by omega), Bool.false_and, Bool.false_and]
theorem ks_sS_cong {F G : Nat → Int64} {S : Int64} {n : Nat} (hn : n ≤ 41) (hS : ∀ i, n ≤ i → i < 64 → hasB S i = false) (hF : ∀ i, i < n → F i = G i) : ∀ (m : Nat), m ≤ n → ks_sS F S m = ks_sS G S m
  | 0, _ => rfl
  | m + 1, hm => by
    unfold ks_sS
    rw [ks_sS_cong hn hS hF m (by omega)]
    rw [ks_al_cong (n := n) (fun i h1 h2 => by rw [ks_sS_hi h2 m (by omega) (by omega)]; exact hS i h1 h2) hF (hF m (by omega)) (by omega)]
theorem ks_ch_cong {F G : Nat → Int64} {S : Int64} {n : Nat} (hn : n ≤ 40) (hS : ∀ i, n ≤ i → i < 64 → hasB S i = false) (hF : ∀ i, i < n → F i = G i) : ks_ch F n S = ks_ch G n S := by
  unfold ks_ch
  rw [ks_sS_cong (by omega) hS hF n (Nat.le_refl _), ks_nS_cong (by omega) (fun i h1 h2 => by rw [ks_sS_hi h2 n (by omega) h1]; exact hS i h1 h2) hF 41 (Nat.le_refl _)]
/-- one more: F n is new and needed -/
def ks_ta (F : Nat → Int64) (n : Nat) (S : Int64) : Int64 := if ks_al F n S = 0 then S else ks_nS F (S ||| lShl 1 (nI n)) 41
theorem ks_ta_no {F : Nat → Int64} {n : Nat} {S : Int64} (h : ks_al F n S = 0) : ks_ta F n S = S := by unfold ks_ta; rw [if_pos h]
theorem ks_ta_yes {F : Nat → Int64} {n : Nat} {S : Int64} (hn : n ≤ 40) (hI : ks_I F n S) (h : ks_al F n S ≠ 0) : ks_I F (n + 1) (ks_ta F n S) ∧ hasB (ks_ta F n S) n = true ∧ ks_ta F n S ≠ S := by
  have e : ks_ta F n S = ks_nS F (S ||| lShl 1 (nI n)) 41 := by unfold ks_ta; rw [if_neg h]
  have hcov : ∀ b, b < 64 → ks_Cov F S b ∨ hasB (F n) b = true → ks_Cov F (ks_ta F n S) b := fun b hb hc => by
    rw [e, ks_nS_cov hb 41 (Nat.le_refl _)]
    rcases hc with ⟨j, h1, h2, h3⟩ | h3
    · exact ⟨j, h1, by rw [hb_pl (by omega) (by omega), h2, Bool.true_or], h3⟩
    · exact ⟨n, by omega, by rw [hb_pl (by omega) (by omega), decide_eq_true rfl, Bool.or_true], h3⟩
  have hkeep : hasB (ks_ta F n S) n = true := by
    obtain ⟨b, hb, h1, h2⟩ := (ks_al_need (by omega)).mp h
    obtain ⟨j, h3, h4, h5⟩ := hcov b hb (Or.inr h1)
    by_cases hjn : j = n
    · subst hjn; exact h4
    · have h6 : hasB (S ||| lShl 1 (nI n)) j = true := ks_nS_le (by omega) 41 (Nat.le_refl _) (by rw [← e]; exact h4)
      rw [hb_pl (by omega) (by omega), decide_eq_false (fun z => hjn z.symm), Bool.or_false] at h6
      rw [h2 j h3 hjn h6] at h5
      cases h5
  refine ⟨⟨fun i h1 h2 => ?_, fun j hj b hb ht => ?_, fun i hi hS => ?_⟩, hkeep, fun hc => ?_⟩
  · cases hc : hasB (ks_ta F n S) i with
    | false => rfl
    | true =>
      have h6 : hasB (S ||| lShl 1 (nI n)) i = true := ks_nS_le h2 41 (Nat.le_refl _) (by rw [← e]; exact hc)
      rw [hb_pl (by omega) h2, hI.1 i (by omega) h2, decide_eq_false (by omega)] at h6
      cases h6
  · by_cases hjn : j = n
    · subst hjn; exact hcov b hb (Or.inr ht)
    · exact hcov b hb (Or.inl (hI.2.1 j (by omega) b hb ht))
  · rw [e]
    rw [e] at hS
    exact ks_nS_need 41 (Nat.le_refl _) i hi hS
  · rw [hc, hI.1 n (Nat.le_refl _) (by omega)] at hkeep
    cases hkeep
