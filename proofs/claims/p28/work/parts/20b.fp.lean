/-! numbers as doubles: tables, reckoned by the kernel -/
/-- the mean times how many, less the sum -/
def ks_df (e k : Nat) : UInt64 := FP.dsub (FP.dmul (ks_me e k) (FP.i2d (nI k))) (FP.i2d (nI e))
/-- without its sign -/
def ks_ab (x : UInt64) : UInt64 := (x.toInt64 &&& 9223372036854775807).toUInt64
def fp_n (x : UInt64) : Bool := decide (x &&& 0x7fffffffffffffff ≤ 0x7ff0000000000000)
theorem fp_nn {x : UInt64} (h : fp_n x = true) : vf_n64 x := by
  unfold vf_n64
  unfold fp_n at h
  exact of_decide_eq_true h
def fp_c (e k : Nat) : Bool := fp_n (FP.dmul (ks_me e k) (FP.i2d (nI k))) && (fp_n (ks_df e k) && (!vn_snl2d ((ks_df e k).toInt64 &&& 9223372036854775807) && !decide (0 < Op.cmpValue (FP.dcmp (ks_ab (ks_df e k)) 4562254508917369340) .l)))
def fp_a (a b : Nat) : Bool := decide (FP.dadd (FP.i2d (nI a)) (FP.i2d (nI b)) = FP.i2d (nI (a + b))) && fp_n (FP.i2d (nI (a + b)))
set_option maxRecDepth 100000 in
theorem fp_a1 : (List.range 80).all (fun a => (List.range (min 79 (154 - a))).all (fun b => fp_a a b)) = true := by decide +kernel
set_option maxRecDepth 100000 in
theorem fp_a2 : (List.range 74).all (fun a => (List.range (min 79 (74 - a))).all (fun b => fp_a (80 + a) b)) = true := by decide +kernel
set_option maxRecDepth 100000 in
theorem fp_c1 : (List.range 8).all (fun k => (List.range 154).all (fun e => fp_c e (k + 1))) = true := by decide +kernel
set_option maxRecDepth 100000 in
theorem fp_c2 : (List.range 8).all (fun k => (List.range 154).all (fun e => fp_c e (k + 9))) = true := by decide +kernel
theorem fp_c0 : fp_c 0 0 = true := by decide +kernel
theorem fp_0 : FP.dconst0 = FP.i2d (nI 0) := by decide +kernel
theorem fp_sum {a b : Nat} (hb : b < 79) (hab : a + b < 154) : FP.dadd (FP.i2d (nI a)) (FP.i2d (nI b)) = FP.i2d (nI (a + b)) ∧ vf_n64 (FP.i2d (nI (a + b))) := by
  have key : fp_a a b = true := by
    rcases Nat.lt_or_ge a 80 with h | h
    · exact List.all_eq_true.mp (List.all_eq_true.mp fp_a1 a (List.mem_range.mpr h)) b (List.mem_range.mpr (by omega))
    · have := List.all_eq_true.mp (List.all_eq_true.mp fp_a2 (a - 80) (List.mem_range.mpr (by omega))) b (List.mem_range.mpr (by omega))
      rw [show 80 + (a - 80) = a by omega] at this
      exact this
  unfold fp_a at key
  rw [Bool.and_eq_true, decide_eq_true_eq] at key
  exact ⟨key.1, fp_nn key.2⟩
theorem fp_mean {e k : Nat} (hk : k ≤ 16) (he : e < 154) (h0 : k = 0 → e = 0) : vf_n64 (FP.dmul (ks_me e k) (FP.i2d (nI k))) ∧ vf_n64 (ks_df e k) ∧ vn_snl2d ((ks_df e k).toInt64 &&& 9223372036854775807) = false ∧ ¬ 0 < Op.cmpValue (FP.dcmp (ks_ab (ks_df e k)) 4562254508917369340) .l := by
  have key : fp_c e k = true := by
    rcases Nat.eq_zero_or_pos k with h | h
    · rw [h0 h, h]; exact fp_c0
    · rcases Nat.lt_or_ge k 9 with h2 | h2
      · have := List.all_eq_true.mp (List.all_eq_true.mp fp_c1 (k - 1) (List.mem_range.mpr (by omega))) e (List.mem_range.mpr he)
        rw [show k - 1 + 1 = k by omega] at this
        exact this
      · have := List.all_eq_true.mp (List.all_eq_true.mp fp_c2 (k - 9) (List.mem_range.mpr (by omega))) e (List.mem_range.mpr he)
        rw [show k - 9 + 9 = k by omega] at this
        exact this
  unfold fp_c at key
  rw [Bool.and_eq_true, Bool.and_eq_true, Bool.and_eq_true, Bool.not_eq_true', Bool.not_eq_true', decide_eq_false_iff_not] at key
  exact ⟨fp_nn key.1, fp_nn key.2.1, key.2.2.1, key.2.2.2⟩
