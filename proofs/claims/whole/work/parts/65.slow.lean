/-! steady: the class and the reference -/
section SL
variable {hE lowCap : Nat → Int32} {slope steep : Int32}
theorem s_pull : ∀ (r j k : Nat) (q : Int32), p_isSteady_29 hE k r j q = p_mAreSlow_32 hE k r j q := by
  intro r
  induction r with
  | zero => intro j k q; rfl
  | succ r ih =>
    intro j k q
    unfold p_isSteady_29 p_mAreSlow_32
    rw [show k * 7 + j = 7 * k + j by omega]
    exact ih _ _ _
theorem m_slow0 : ∀ r k : Nat, p_mAreSlow_4 slope steep lowCap hE r k (nI 0) = nI 0 := by
  intro r
  induction r with
  | zero => intro k; rfl
  | succ r ih =>
    intro k
    unfold p_mAreSlow_4
    by_cases h4 : 4 ≤ k
    · rw [if_pos h4]; simp only [ap1]; rw [if_pos (show nI 0 = 0 by decide)]; exact ih _
    · rw [if_neg h4]; simp only [ap1]; rw [if_pos (show nI 0 = 0 by decide)]; exact ih _
theorem s_steady2 : ∀ r k : Nat, p_isSteady_2 slope steep hE lowCap r k = p_mAreSlow_4 slope steep lowCap hE r k (nI 1) := by
  intro r
  induction r with
  | zero => intro k; rfl
  | succ r ih =>
    intro k
    have key : ∀ P : Int32, (if nI 2 * P ≤ lowCap k then p_isSteady_2 slope steep hE lowCap r (k + 1) else nI 0) = (if nI 1 = 0 then p_mAreSlow_4 slope steep lowCap hE r (k + 1) (nI 0) else if lowCap k < nI 2 * P then p_mAreSlow_4 slope steep lowCap hE r (k + 1) (nI 0) else p_mAreSlow_4 slope steep lowCap hE r (k + 1) (nI 1)) := by
      intro P
      rw [if_neg (show ¬ nI 1 = 0 by decide)]
      by_cases h : nI 2 * P ≤ lowCap k
      · rw [if_pos h, if_neg (fun q => by have g1 := n_lt.mp q; have g2 := n_le.mp h; omega), ih]
      · rw [if_neg h, if_pos (n_lt.mpr (by have : ¬ (nI 2 * P).toInt ≤ (lowCap k).toInt := fun q => h (n_le.mpr q); omega)), m_slow0]
    unfold p_isSteady_2 p_mAreSlow_4
    by_cases h4 : 4 ≤ k
    · rw [if_pos h4, if_pos h4]; simp only [ap1]; rw [s_pull]; exact key _
    · rw [if_neg h4, if_neg h4]; simp only [ap1]; rw [s_pull]; exact key _
theorem s_steady (hE lowCap : Nat → Int32) (slope steep : Int32) : p_isSteady slope steep hE lowCap = p_mAreSlow slope steep lowCap hE := s_steady2 6 0
theorem bz_steady2 : ∀ r k : Nat, p_isSteady_2 slope steep hE lowCap r k = nI 0 ∨ p_isSteady_2 slope steep hE lowCap r k = nI 1 := by
  intro r
  induction r with
  | zero => intro k; exact Or.inr rfl
  | succ r ih =>
    intro k
    unfold p_isSteady_2
    by_cases h4 : 4 ≤ k
    · rw [if_pos h4]; simp only [ap1]; split
      · exact ih _
      · exact Or.inl rfl
    · rw [if_neg h4]; simp only [ap1]; split
      · exact ih _
      · exact Or.inl rfl
def sl_sum (hE : Nat → Int32) (k j : Nat) : Int := mt_sum (fun o => iE hE (7 * k + o)) j
theorem sl_sum_succ (k j : Nat) : sl_sum hE k (j + 1) = sl_sum hE k j + (hE (7 * k + j)).toInt := rfl
theorem sl_sum_ran {lowE : Nat → Int32} (E : cf_E lowE hE) {k : Nat} (hk : k < 7) : ∀ j : Nat, j ≤ 7 → 0 ≤ sl_sum hE k j ∧ sl_sum hE k j ≤ 500 * (j : Int) := by
  intro j
  induction j with
  | zero => intro _; simp [sl_sum, mt_sum]
  | succ j ih =>
    intro hj
    have h1 := ih (by omega)
    have h2 := E k j hk (by omega)
    rw [sl_sum_succ]
    omega
theorem c_pull {lowE : Nat → Int32} (E : cf_E lowE hE) {k : Nat} (hk : k < 6) {p0 : Int} (h0 : 0 ≤ p0) (h1 : p0 ≤ 200) : ∀ (r j : Nat) (q : Int32), j + r = 7 → q.toInt = p0 + sl_sum hE k j → (p_isSteady_29 hE k r j q).toInt = p0 + sl_sum hE k 7 := by
  intro r
  induction r with
  | zero => intro j q hj hq; unfold p_isSteady_29; rw [hq, show j = 7 by omega]
  | succ r ih =>
    intro j q hj hq
    have hr := sl_sum_ran E (show k < 7 by omega) j (by omega)
    have he := E k j (by omega) (by omega)
    unfold p_isSteady_29
    rw [show k * 7 + j = 7 * k + j by omega]
    exact ih _ _ (by omega) (by rw [n_add (by rw [hq]; omega) (by rw [hq]; omega), hq, sl_sum_succ]; omega)
/-- what a yes says -/
theorem c_steady {lowE : Nat → Int32} (E : cf_E lowE hE) (hs : 0 ≤ slope.toInt ∧ slope.toInt ≤ 100) (ht : 0 ≤ steep.toInt ∧ steep.toInt ≤ 100) : ∀ r k : Nat, k + r = 6 → ¬ p_isSteady_2 slope steep hE lowCap r k = 0 → ∀ n : Nat, k ≤ n → n < 6 → sl_sum hE n 7 ≤ (lowCap n).toInt := by
  intro r
  induction r with
  | zero => intro k hk _ n h1 h2; omega
  | succ r ih =>
    intro k hk h n h1 h2
    have hk6 : k < 6 := by omega
    have e2 : (nI 2).toInt = 2 := by decide
    have fin : ∀ (P : Int32) (p0 : Int), 0 ≤ p0 → p0 ≤ 200 → P.toInt = p0 + sl_sum hE k 7 → ¬ (if nI 2 * P ≤ lowCap k then p_isSteady_2 slope steep hE lowCap r (k + 1) else nI 0) = 0 → sl_sum hE n 7 ≤ (lowCap n).toInt := by
      intro P p0 q0 q1 hP hh
      have hr := sl_sum_ran E (show k < 7 by omega) 7 (by omega)
      by_cases hc : nI 2 * P ≤ lowCap k
      · rw [if_pos hc] at hh
        have hc' := n_le.mp hc
        rw [n_mul (by rw [e2, hP]; omega) (by rw [e2, hP]; omega), e2, hP] at hc'
        by_cases e : n = k
        · subst e; omega
        · exact ih (k + 1) (by omega) hh n (by omega) h2
      · rw [if_neg hc] at hh
        exact absurd (by decide) hh
    unfold p_isSteady_2 at h
    by_cases h4 : 4 ≤ k
    · rw [if_pos h4] at h
      simp only [ap1] at h
      exact fin _ 0 (by omega) (by omega) (c_pull E hk6 (by omega) (by omega) 7 0 (nI 0) rfl (by simp [sl_sum, mt_sum]; decide)) h
    · rw [if_neg h4] at h
      simp only [ap1] at h
      have e : (slope + steep).toInt = slope.toInt + steep.toInt := n_add (by omega) (by omega)
      exact fin _ (slope.toInt + steep.toInt) (by omega) (by omega) (c_pull E hk6 (by omega) (by omega) 7 0 _ rfl (by rw [e]; simp [sl_sum, mt_sum])) h
end SL
