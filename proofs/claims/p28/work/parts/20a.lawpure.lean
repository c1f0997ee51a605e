/-! what the law asks, of numbers and sets alone; its own rules of the machine -/
theorem I_many {F : Nat → Int64} {n : Nat} {S : Int64} (hn : n ≤ 40) (hI : ks_I F n S) : ks_fb F S 41 = ks_fb F (ks_all n) 41 := by
  apply hb_ext
  intro b hb
  apply Bool.eq_iff_iff.mpr
  rw [ks_fb_bit hb, ks_fb_bit hb]
  constructor
  · rintro ⟨j, h1, h2, h3⟩
    refine ⟨j, h1, ?_, h3⟩
    rw [hb_all hn (show j < 64 by omega)]
    exact decide_eq_true (Nat.lt_of_not_le fun h => by rw [hI.1 j h (by omega)] at h2; cases h2)
  · rintro ⟨j, h1, h2, h3⟩
    rw [hb_all hn (show j < 64 by omega)] at h2
    exact hI.2.1 j (of_decide_eq_true h2) b hb h3
theorem nr_next {P : Pg} {i e : Nat} (h : e / 2 = i) : ks_nr P i (3 + e % 2) = ks_tI (P.2.2.2.1 e) := by
  rcases (show e % 2 = 0 ∨ e % 2 = 1 by omega) with h2 | h2
  · rw [h2]
    show ks_tI (P.2.2.2.1 (2 * i)) = _
    rw [show 2 * i = e by omega]
  · rw [h2]
    show ks_tI (P.2.2.2.1 (2 * i + 1)) = _
    rw [show 2 * i + 1 = e by omega]
theorem st_gt {P : Pg} {t k : Nat} (hk : k < 30) (ha : ∀ j, j < k → ks_go P (ks_nd P t j) = true) (h : ks_go P (ks_nd P t k) = true) : k < ks_st P t := by
  apply Nat.lt_of_not_le
  intro hle
  rcases (ks_st_end P t).2.2.2 with e | e
  · omega
  · rcases Nat.lt_or_ge (ks_st P t) k with q | q
    · rw [ha _ q] at e; cases e
    · rw [show ks_st P t = k by omega, h] at e; cases e
theorem rs_A {P : Pg} {t k : Nat} (hk : k ≤ 30) (ha : ∀ j, j < k → ks_go P (ks_nd P t j) = true) (hn : ¬ ks_nd P t k < 12) : ks_rs P t < 24 := by
  cases k with
  | zero => exact absurd (show ks_nd P t 0 < 12 from by show (0 : Nat) < 12; omega) hn
  | succ j =>
    obtain ⟨e1, -, -, e4⟩ := ks_end hk ha (Or.inr (ks_go_no hn))
    unfold ks_rs
    rw [if_neg (by rw [e1]; exact hn), e4, (ks_step (ha j (Nat.lt_succ_self j))).2.2]
    exact (ks_eg_lt (ks_go_lt (ha j (Nat.lt_succ_self j))).1).1
theorem updN_back {g : Nat → Nat} {i x : Nat} : updN (updN g i x) i (g i) = g := by
  funext j
  unfold updN
  by_cases h : j = i
  · subst h; rw [if_pos rfl]
  · rw [if_neg h, if_neg h]
theorem tl_cong {g h : Nat → Nat} (e : ∀ j, j < 4 → g j = h j) : ks_tl g = ks_tl h := by
  unfold ks_tl
  rw [e 0 (by omega), e 1 (by omega), e 2 (by omega), e 3 (by omega)]
theorem tl_dg {t : Nat} (ht : t < 10000) : ks_tl (ks_dg t) = t := by
  show 1000 * (t / 1000 % 10) + 100 * (t / 100 % 10) + 10 * (t / 10 % 10) + t % 10 = t
  omega
theorem dg_wv {t s v : Nat} (ht : t < 10000) (hs : s < 4) (hv : v < 10) : ∀ j, j < 4 → ks_dg (ks_wv t s v) j = updN (ks_dg t) s v j := fun j hj => by
  rcases (show s = 0 ∨ s = 1 ∨ s = 2 ∨ s = 3 by omega) with rfl | rfl | rfl | rfl <;> rcases (show j = 0 ∨ j = 1 ∨ j = 2 ∨ j = 3 by omega) with rfl | rfl | rfl | rfl <;> simp [ks_dg, ks_wv, ks_pw, updN] <;> omega
/-- two slots changed one for the other -/
theorem sw_tl {t a b : Nat} (ht : t < 10000) (ha : a < 4) (hb : b < 4) : ks_tl (updN (updN (ks_dg t) a (ks_dg t b)) b (ks_dg t a)) = ks_wv (ks_wv t a (ks_dg t b)) b (ks_dg t a) := by
  have h1 : ks_wv t a (ks_dg t b) < 10000 := ks_wv_lt ht (ks_dg_lt _ _)
  rw [← tl_wv h1 hb]
  apply tl_cong
  intro j hj
  unfold updN
  by_cases h : j = b
  · rw [if_pos h, if_pos h]
  · rw [if_neg h, if_neg h, dg_wv ht ha (ks_dg_lt _ _) j hj]
    rfl
theorem cg_sw {Q : Rg} {r t : Nat} (h : ¬ Q.1 r = 1) : ks_cg Q r t = ks_wv (ks_wv t (Q.2.1 r) (ks_dg t (Q.2.2 r))) (Q.2.2 r) (ks_dg t (Q.2.1 r)) := if_neg h
theorem cg_dg {Q : Rg} {r t j : Nat} (h : ¬ Q.1 r = 1) (ht : t < 10000) (ha : Q.2.1 r < 4) (hb : Q.2.2 r < 4) (hj : j < 4) : ks_dg (ks_cg Q r t) j = updN (updN (ks_dg t) (Q.2.1 r) (ks_dg t (Q.2.2 r))) (Q.2.2 r) (ks_dg t (Q.2.1 r)) j := by
  rw [cg_sw h, dg_wv (ks_wv_lt ht (ks_dg_lt _ _)) hb (ks_dg_lt _ _) j hj]
  unfold updN
  by_cases h1 : j = Q.2.2 r
  · rw [if_pos h1, if_pos h1]
  · rw [if_neg h1, if_neg h1, dg_wv ht ha (ks_dg_lt _ _) j hj]
    rfl
theorem cg_back {Q : Rg} {r t : Nat} (h : ¬ Q.1 r = 1) (ht : t < 10000) (ha : Q.2.1 r < 4) (hb : Q.2.2 r < 4) : ks_cg Q r (ks_cg Q r t) = t := by
  have h1 : ks_cg Q r t < 10000 := ks_cg_lt ht
  have h2 : ks_cg Q r (ks_cg Q r t) < 10000 := ks_cg_lt h1
  refine (tl_dg h2).symm.trans (Eq.trans ?_ (tl_dg ht))
  apply tl_cong
  intro j hj
  rw [cg_dg h h1 ha hb hj]
  unfold updN
  by_cases h3 : j = Q.2.2 r
  · rw [if_pos h3, cg_dg h ht ha hb ha]
    unfold updN
    by_cases h4 : Q.2.1 r = Q.2.2 r
    · rw [if_pos h4, h3, h4]
    · rw [if_neg h4, if_pos rfl, h3]
  · rw [if_neg h3]
    by_cases h4 : j = Q.2.1 r
    · rw [if_pos h4, cg_dg h ht ha hb hb]
      unfold updN
      rw [if_pos rfl, h4]
    · rw [if_neg h4, cg_dg h ht ha hb hj]
      unfold updN
      rw [if_neg h3, if_neg h4]
theorem br_sym {P : Pg} {Q : Rg} {r t : Nat} (h : ¬ Q.1 r = 1) (ht : t < 10000) (ha : Q.2.1 r < 4) (hb : Q.2.2 r < 4) : (!decide (ks_rs P (ks_cg Q r t) = ks_rs P (ks_cg Q r (ks_cg Q r t)))) = (!decide (ks_rs P t = ks_rs P (ks_cg Q r t))) := by
  rw [cg_back h ht ha hb]
  by_cases e : ks_rs P t = ks_rs P (ks_cg Q r t)
  · rw [decide_eq_true e, decide_eq_true e.symm]
  · rw [decide_eq_false e, decide_eq_false (fun z => e z.symm)]
theorem ed_pos {x : Int64} {e : Nat} (he : e < 24) (h : hasB x e = true) : 0 < ks_ed x := by
  rw [ks_ed_eq]
  exact fb_ct_pos.mpr ⟨e, he, h⟩
theorem wd_le {T S : Int64} : ks_wd T S ≤ nI (ks_bc S) := by
  unfold ks_wd
  have h1 := ks_bc_le S
  split
  · rw [Int32.le_iff_toInt_le, nI_toInt (by omega)]
    have hm : (-1 : Int32).toInt = -1 := by decide
    rw [hm]
    omega
  · have h2 := ks_bc_le (S &&& (T ^^^ (-1)))
    have h3 : ks_bc (S &&& (T ^^^ (-1))) ≤ ks_bc S := ks_bc_sub fun k hk h => by
      rw [hb_and hk, Bool.and_eq_true] at h
      exact h.1
    rw [Int32.le_iff_toInt_le, nI_toInt (by omega), nI_toInt (by omega)]
    omega
theorem al_ed {F : Nat → Int64} {S : Int64} {k : Nat} : ks_ed (ks_al F k S) ≤ ks_ed (F k) := by
  rw [ks_ed_eq, ks_ed_eq]
  refine fb_ct_sub fun b hb h => ?_
  unfold ks_al at h
  rw [hb_and (show b < 64 by omega), Bool.and_eq_true] at h
  exact h.1
theorem en_not {F : Nat → Int64} {S : Int64} {mu : Nat → Nat} {k : Nat} (h : hasB S k = false) : ks_en F S mu k = 0 := by
  unfold ks_en
  rw [h]
  rfl
/-- a sum -/
def ks_su (f : Nat → Nat) : Nat → Nat | 0 => 0 | k + 1 => ks_su f k + f k
theorem su_add {f g : Nat → Nat} : ∀ n, ks_su (fun k => f k + g k) n = ks_su f n + ks_su g n
  | 0 => rfl
  | n + 1 => by
    show ks_su (fun k => f k + g k) n + (f n + g n) = (ks_su f n + f n) + (ks_su g n + g n)
    rw [su_add n]
    omega
theorem su_0 {f : Nat → Nat} : ∀ n, (∀ i, i < n → f i = 0) → ks_su f n = 0
  | 0, _ => rfl
  | n + 1, h => by
    show ks_su f n + f n = 0
    rw [su_0 n (fun i hi => h i (by omega)), h n (by omega)]
theorem su_one {q : Nat → Bool} : ∀ n, (∀ i j, i < n → j < n → i ≠ j → q i = true → q j = false) → ks_su (fun k => if q k then 1 else 0) n ≤ 1
  | 0, _ => Nat.zero_le 1
  | n + 1, h => by
    show ks_su (fun k => if q k then 1 else 0) n + (if q n then 1 else 0) ≤ 1
    cases hq : q n with
    | false =>
      simp only [Bool.false_eq_true, if_false, Nat.add_zero]
      exact su_one n (fun i j hi hj => h i j (by omega) (by omega))
    | true =>
      rw [su_0 n (fun i hi => by show (if q i = true then 1 else 0) = 0; rw [h n i (by omega) (by omega) (by omega) hq]; rfl)]
      simp
theorem su_disj {p : Nat → Nat → Bool} {n : Nat} (h : ∀ i j b, i < n → j < n → i ≠ j → p i b = true → p j b = false) : ∀ m, ks_su (fun k => fb_ct (p k) m) n ≤ m
  | 0 => Nat.le_of_eq (su_0 n (fun _ _ => rfl))
  | m + 1 => by
    have e : ks_su (fun k => fb_ct (p k) (m + 1)) n = ks_su (fun k => fb_ct (p k) m) n + ks_su (fun k => if p k m then 1 else 0) n := su_add (f := fun k => fb_ct (p k) m) (g := fun k => if p k m then 1 else 0) n
    have h1 : ks_su (fun k => fb_ct (p k) m) n ≤ m := su_disj h m
    have h2 : ks_su (fun k => if p k m then 1 else 0) n ≤ 1 := su_one (q := fun k => p k m) n (fun i j hi hj hij => h i j m hi hj hij)
    omega
theorem al_out {F : Nat → Int64} {S : Int64} {i j b : Nat} (hi : i < 41) (hj : j < 41) (hij : i ≠ j) (hb : b < 64) (hS : hasB S j = true) (h : hasB (ks_al F i S) b = true) : hasB (ks_al F j S) b = false := by
  have h1 := ((ks_al_bit hi hb).mp h).2 j hj (Ne.symm hij) hS
  cases h2 : hasB (ks_al F j S) b with
  | false => rfl
  | true => rw [((ks_al_bit hj hb).mp h2).1] at h1; cases h1
def ks_p1 (F : Nat → Int64) (S : Int64) (k b : Nat) : Bool := hasB S k && (decide (b < 24) && hasB (ks_al F k S) b)
def ks_p2 (F : Nat → Int64) (S : Int64) (k b : Nat) : Bool := hasB S k && (decide (b < 13) && hasB (ks_al F k S) (24 + b))
theorem p1_disj {F : Nat → Int64} {S : Int64} {n : Nat} (hn : n ≤ 40) : ∀ i j b, i < n → j < n → i ≠ j → ks_p1 F S i b = true → ks_p1 F S j b = false := fun i j b hi hj hij h => by
  unfold ks_p1 at h ⊢
  rw [Bool.and_eq_true, Bool.and_eq_true, decide_eq_true_eq] at h
  cases hS : hasB S j with
  | false => rfl
  | true => rw [al_out (by omega) (by omega) hij (by omega) hS h.2.2]; simp
theorem p2_disj {F : Nat → Int64} {S : Int64} {n : Nat} (hn : n ≤ 40) : ∀ i j b, i < n → j < n → i ≠ j → ks_p2 F S i b = true → ks_p2 F S j b = false := fun i j b hi hj hij h => by
  unfold ks_p2 at h ⊢
  rw [Bool.and_eq_true, Bool.and_eq_true, decide_eq_true_eq] at h
  cases hS : hasB S j with
  | false => rfl
  | true => rw [al_out (by omega) (by omega) hij (by omega) hS h.2.2]; simp
theorem en_parts {P : Pg} {t : Nat → Nat} {S : Int64} {mu : Nat → Nat} {k : Nat} : ks_en (ks_F P t) S mu k ≤ 1 + 3 * fb_ct (ks_p1 (ks_F P t) S k) 24 + 5 * fb_ct (ks_p2 (ks_F P t) S k) 13 := by
  cases hS : hasB S k with
  | false => rw [en_not hS]; omega
  | true =>
    have e1 : fb_ct (ks_p1 (ks_F P t) S k) 24 = ks_ed (ks_al (ks_F P t) k S) := by
      rw [ks_ed_eq]
      exact fb_ct_cong fun b hb => by unfold ks_p1; rw [hS, decide_eq_true hb]; rfl
    unfold ks_en
    rw [hS, if_pos rfl, e1]
    split
    · omega
    · rename_i h
      have h1 : 0 < fb_ct (ks_p2 (ks_F P t) S k) 13 := by
        apply Nat.pos_of_ne_zero
        intro hz
        apply h
        rw [hb_hi24]
        intro f hf
        rw [fb_ct_zero] at hz
        rcases Nat.lt_or_ge f 13 with q | q
        · have := hz f q
          unfold ks_p2 at this
          rw [hS, decide_eq_true q] at this
          simpa using this
        · cases hc : hasB (ks_al (ks_F P t) k S) (24 + f) with
          | false => rfl
          | true =>
            unfold ks_al at hc
            rw [hb_and (show 24 + f < 64 by omega), Bool.and_eq_true] at hc
            have := ks_fd_hi (P := P) (t := t k) (b := 24 + f) (by omega) (by omega)
            rw [show ks_F P t k = ks_fd P (t k) from rfl, this] at hc
            cases hc.1
      omega
theorem we_parts {P : Pg} {t : Nat → Nat} {S : Int64} {mu : Nat → Nat} : ∀ n, ks_we (ks_F P t) S mu n ≤ n + 3 * ks_su (fun k => fb_ct (ks_p1 (ks_F P t) S k) 24) n + 5 * ks_su (fun k => fb_ct (ks_p2 (ks_F P t) S k) 13) n
  | 0 => Nat.le_refl 0
  | n + 1 => by
    have h1 := we_parts (P := P) (t := t) (S := S) (mu := mu) n
    have h2 := en_parts (P := P) (t := t) (S := S) (mu := mu) (k := n)
    show ks_we (ks_F P t) S mu n + ks_en (ks_F P t) S mu n ≤ (n + 1) + 3 * (ks_su (fun k => fb_ct (ks_p1 (ks_F P t) S k) 24) n + fb_ct (ks_p1 (ks_F P t) S n) 24) + 5 * (ks_su (fun k => fb_ct (ks_p2 (ks_F P t) S k) 13) n + fb_ct (ks_p2 (ks_F P t) S n) 13)
    omega
theorem we_lt {P : Pg} {t : Nat → Nat} {S : Int64} {mu : Nat → Nat} {n : Nat} (hn : n ≤ 16) : ks_we (ks_F P t) S mu n < 154 := by
  have h1 := we_parts (P := P) (t := t) (S := S) (mu := mu) n
  have h2 := su_disj (p1_disj (F := ks_F P t) (S := S) (n := n) (by omega)) 24
  have h3 := su_disj (p2_disj (F := ks_F P t) (S := S) (n := n) (by omega)) 13
  omega
theorem we_mono {F : Nat → Int64} {S : Int64} {mu : Nat → Nat} {k : Nat} : ∀ d, ks_we F S mu k ≤ ks_we F S mu (k + d)
  | 0 => Nat.le_refl _
  | d + 1 => Nat.le_trans (we_mono d) (by show _ ≤ ks_we F S mu (k + d) + ks_en F S mu (k + d); exact Nat.le_add_right _ _)
theorem we_step {P : Pg} {t : Nat → Nat} {S : Int64} {mu : Nat → Nat} {k n : Nat} (hk : k < n) (hn : n ≤ 16) : ks_we (ks_F P t) S mu k + ks_en (ks_F P t) S mu k < 154 := by
  have h1 := we_mono (F := ks_F P t) (S := S) (mu := mu) (k := k + 1) (n - (k + 1))
  rw [show k + 1 + (n - (k + 1)) = n by omega] at h1
  have h2 := we_lt (P := P) (t := t) (S := S) (mu := mu) hn
  exact Nat.lt_of_le_of_lt h1 h2
theorem bc_n {n : Nat} {S : Int64} (hn : n ≤ 40) (hS : ks_SK n S) : ks_bc S ≤ n := by
  rw [ks_bc_n hn hS]
  exact fb_ct_le _ _
theorem bc_one {j : Nat} (hj : j < 37) : ks_bc ((0 : Int64) ||| lShl 1 (nI j)) = 1 :=
  co64 (P := fun j => j < 37 → ks_bc ((0 : Int64) ||| lShl 1 (nI j)) = 1) (by decide +kernel) (show j < 64 by omega) hj
theorem ap_one {P : Pg} {W : Wg} {sd : Nat} (hW : ks_WP P) : ks_bc (ks_ap P W sd 1).1 = 1 := by
  show ks_bc ((0 : Int64) ||| lShl 1 (nI (ks_oc (ks_rs P (ks_nc W sd).1)))) = 1
  exact bc_one (ks_oc_rs hW)
theorem ap_step {P : Pg} {W : Wg} {sd k : Nat} : ks_bc (ks_ap P W sd k).1 ≤ ks_bc (ks_ap P W sd (k + 1)).1 := ks_bc_sub fun b hb h => by
  show hasB ((ks_ap P W sd k).1 ||| _) b = true
  rw [hb_or hb, h]
  rfl
theorem ap_mono {P : Pg} {W : Wg} {sd k : Nat} : ∀ d, ks_bc (ks_ap P W sd k).1 ≤ ks_bc (ks_ap P W sd (k + d)).1
  | 0 => Nat.le_refl _
  | d + 1 => Nat.le_trans (ap_mono d) ap_step
theorem no_self {t : Nat → Nat} {n k : Nat} (hap : ks_AP t n) (hk : k < n) : ks_no t n (t k) = k := ks_no_at hk (fun j hj e => absurd (hap j k (by omega) hk e) (Nat.ne_of_lt hj)) rfl
theorem AO_back {P : Pg} {t : Nat → Nat} {n c : Nat} {f0 f1 : Nat → Int32} {F : Nat → Int64} (h : ks_AO P (updN t n c) n f0 f1 F) : ks_AO P t n f0 f1 F := fun i hi => by
  have := h i hi
  rw [updN_ne (show i ≠ n by omega)] at this
  exact this
theorem oI_self {t : Nat → Nat} {n k c : Nat} (hap : ks_AP t n) (hk : k < n) (hn : n ≤ 40) : ks_oI n (ks_no (updN t n c) n (t k)) = nI k := by
  rw [no_upd (Nat.le_refl n), no_self hap hk]
  unfold ks_oI
  rw [if_pos hk]
section GL10
variable {p : Program} {l : Launch} {e : Env} {R : Room} {s : State} {m : MethodId} {args : Array Value} {below : List Frame} {meth : Method} {c : Code} {Q : State → Prop} {D : va_G} {AD A : Nat → Prop} {nL cells slots : Nat} {w : va_W} {lv : List (Nat × Value)} {pc : Nat} {st : List Value} {cc : ByteArray} {Ts : List Cond} {own : String}
theorem g_tif_lt (B : CallFix p m c cc nL s args Ts own) {k : Nat} {off : Int} {tgt : Nat} (hdg : decode cc pc = .ok (.ifCond .lt off, 3)) (ht : (pc : Int) + off = (tgt : Int)) (kt : ¬ k < 12 → G p l e R s m args below meth c Q D AD A nL cells slots w lv tgt st) (kf : k < 12 → G p l e R s m args below meth c Q D AD A nL cells slots w lv (pc + 3) st) : G p l e R s m args below meth c Q D AD A nL cells slots w lv pc (.int (ks_tI k) :: st) :=
  g_if_lt B hdg ht (fun h => kt (fun q => absurd (tI_ge.mpr q) (Int32.not_le.mpr h))) (fun h => kf (tI_ge.mp (Int32.not_lt.mp h)))
theorem g_d2l (B : CallFix p m c cc nL s args Ts own) {index : Nat} (h1 : Cond.methodLink own index ⟨"java/lang/Double", "doubleToRawLongBits", "(D)J"⟩ ∈ Ts) (h2 : Cond.native ⟨"java/lang/Double", "doubleToRawLongBits", "(D)J"⟩ ∈ Ts) (h3 : Cond.static ⟨"java/lang/Double", "doubleToRawLongBits", "(D)J"⟩ ∈ Ts) (h4 : Cond.initialized "java/lang/Double" ∈ Ts) {x : UInt64} {v : Int64} (hv : x.toInt64 = v) (hfr : 1 ≤ R.frames) (hlo : (st.map fun v => v.category).sum + 15 ≤ R.locals) (hdg : decode cc pc = .ok (.invokestatic index, 3)) (kk : G p l e R s m args below meth c Q D AD A nL cells slots w lv (pc + 3) (.long v :: st)) : G p l e R s m args below meth c Q D AD A nL cells slots w lv pc (.double x :: st) := by
  subst hv
  intro H locs ls hP hD hS hl
  exact vn_d2l B.1 B.2.1 (B.2.2.1.trans hl.1.symm) B.2.2.2.1 (B.2.2.2.2 _ h1) (B.2.2.2.2 _ h2) (B.2.2.2.2 _ h3) (B.2.2.2.2 _ h4) hfr hlo hdg (kk H locs ls hP hD hS hl)
theorem g_l2d (B : CallFix p m c cc nL s args Ts own) {index : Nat} (h1 : Cond.methodLink own index ⟨"java/lang/Double", "longBitsToDouble", "(J)D"⟩ ∈ Ts) (h2 : Cond.native ⟨"java/lang/Double", "longBitsToDouble", "(J)D"⟩ ∈ Ts) (h3 : Cond.static ⟨"java/lang/Double", "longBitsToDouble", "(J)D"⟩ ∈ Ts) (h4 : Cond.initialized "java/lang/Double" ∈ Ts) {x : Int64} {v : UInt64} (hs : vn_snl2d x = false) (hv : x.toUInt64 = v) (hfr : 1 ≤ R.frames) (hlo : (st.map fun v => v.category).sum + 15 ≤ R.locals) (hdg : decode cc pc = .ok (.invokestatic index, 3)) (kk : G p l e R s m args below meth c Q D AD A nL cells slots w lv (pc + 3) (.double v :: st)) : G p l e R s m args below meth c Q D AD A nL cells slots w lv pc (.long x :: st) := by
  subst hv
  intro H locs ls hP hD hS hl
  exact vn_l2d B.1 B.2.1 (B.2.2.1.trans hl.1.symm) B.2.2.2.1 (B.2.2.2.2 _ h1) (B.2.2.2.2 _ h2) (B.2.2.2.2 _ h3) (B.2.2.2.2 _ h4) hs hfr hlo hdg (kk H locs ls hP hD hS hl)
end GL10
