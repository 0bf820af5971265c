/-! the calls that set numbers: the helper and the reference answer alike -/
section ST
theorem w_idx {i : Int32} {c : Nat} {ci : Int} (ec : (nI c).toInt = ci) : p_gNeedIndex i (nI c) = if 0 ≤ i.toInt ∧ i.toInt < ci then Sum.inr () else Sum.inl 1 := by
  unfold p_gNeedIndex
  by_cases h1 : i < 0
  · have h1' := n_lt.mp h1
    rw [n_0] at h1'
    rw [if_pos h1, if_neg (by omega)]
  · have h1' : ¬ i.toInt < (0 : Int32).toInt := fun q => h1 (n_lt.mpr q)
    rw [n_0] at h1'
    rw [if_neg h1]
    by_cases h2 : i < nI c
    · have h2' := n_lt.mp h2
      rw [if_pos h2, if_pos (by omega)]
    · have h2' : ¬ i.toInt < (nI c).toInt := fun q => h2 (n_lt.mpr q)
      rw [if_neg h2, if_neg (by omega)]
theorem w_wit {v a b : Int32} : p_gNeedWithin v a b = if a.toInt ≤ v.toInt ∧ v.toInt ≤ b.toInt then Sum.inr () else Sum.inl 2 := by
  unfold p_gNeedWithin
  by_cases h1 : v < a
  · have h1' := n_lt.mp h1
    rw [if_pos h1, if_neg (by omega)]
  · have h1' : ¬ v.toInt < a.toInt := fun q => h1 (n_lt.mpr q)
    rw [if_neg h1]
    by_cases h2 : v ≤ b
    · have h2' := n_le.mp h2
      rw [if_pos h2, if_pos (by omega)]
    · have h2' : ¬ v.toInt ≤ b.toInt := fun q => h2 (n_le.mpr q)
      rw [if_neg h2, if_neg (by omega)]
theorem w_rng {lo hi a b : Int32} : p_gNeedRange lo hi a b = if (a.toInt ≤ lo.toInt ∧ lo.toInt ≤ b.toInt) ∧ (lo.toInt ≤ hi.toInt ∧ hi.toInt ≤ b.toInt) then Sum.inr () else Sum.inl 2 := by
  unfold p_gNeedRange
  by_cases h1 : lo < a
  · have h1' := n_lt.mp h1
    rw [if_pos h1, if_neg (by omega)]
  · have h1' : ¬ lo.toInt < a.toInt := fun q => h1 (n_lt.mpr q)
    rw [if_neg h1]
    by_cases h2 : hi < lo
    · have h2' := n_lt.mp h2
      rw [if_pos h2, if_neg (by omega)]
    · have h2' : ¬ hi.toInt < lo.toInt := fun q => h2 (n_lt.mpr q)
      rw [if_neg h2]
      by_cases h3 : hi ≤ b
      · have h3' := n_le.mp h3
        rw [if_pos h3, if_pos (by omega)]
      · have h3' : ¬ hi.toInt ≤ b.toInt := fun q => h3 (n_le.mpr q)
        rw [if_neg h3, if_neg (by omega)]
theorem w_mwi {v a b : Int32} : p_mIsWithin v a b = if a.toInt ≤ v.toInt ∧ v.toInt ≤ b.toInt then nI 1 else nI 0 := by
  unfold p_mIsWithin
  by_cases h1 : v < a
  · have h1' := n_lt.mp h1
    rw [if_pos h1, if_neg (by omega)]
  · have h1' : ¬ v.toInt < a.toInt := fun q => h1 (n_lt.mpr q)
    rw [if_neg h1]
    by_cases h2 : b < v
    · have h2' := n_lt.mp h2
      rw [if_pos h2, if_neg (by omega)]
    · have h2' : ¬ b.toInt < v.toInt := fun q => h2 (n_lt.mpr q)
      rw [if_neg h2, if_pos (by omega)]
theorem w_node {n : Int32} : p_mIsNode n = if 0 ≤ n.toInt ∧ n.toInt < 6 then nI 1 else nI 0 := by
  have ec : (nI 6).toInt = 6 := by decide
  unfold p_mIsNode
  by_cases h1 : n < 0
  · have h1' := n_lt.mp h1
    rw [n_0] at h1'
    rw [if_pos h1, if_neg (by omega)]
  · have h1' : ¬ n.toInt < (0 : Int32).toInt := fun q => h1 (n_lt.mpr q)
    rw [n_0] at h1'
    rw [if_neg h1]
    by_cases h2 : nI 6 ≤ n
    · have h2' := n_le.mp h2
      rw [if_pos h2, if_neg (by omega)]
    · have h2' : ¬ (nI 6).toInt ≤ n.toInt := fun q => h2 (n_le.mpr q)
      rw [if_neg h2, if_pos (by omega)]
theorem w_core {n : Int32} : p_mIsCore n = if 0 ≤ n.toInt ∧ n.toInt < 4 then nI 1 else nI 0 := by
  have ec : (nI 4).toInt = 4 := by decide
  unfold p_mIsCore
  by_cases h1 : n < 0
  · have h1' := n_lt.mp h1
    rw [n_0] at h1'
    rw [if_pos h1, if_neg (by omega)]
  · have h1' : ¬ n.toInt < (0 : Int32).toInt := fun q => h1 (n_lt.mpr q)
    rw [n_0] at h1'
    rw [if_neg h1]
    by_cases h2 : nI 4 ≤ n
    · have h2' := n_le.mp h2
      rw [if_pos h2, if_neg (by omega)]
    · have h2' : ¬ (nI 4).toInt ≤ n.toInt := fun q => h2 (n_le.mpr q)
      rw [if_neg h2, if_pos (by omega)]
theorem w_end {n : Int32} : p_mIsEnd n = if 0 ≤ n.toInt ∧ n.toInt < 7 then nI 1 else nI 0 := by
  have ec : (nI 6).toInt = 6 := by decide
  unfold p_mIsEnd
  by_cases h1 : n < 0
  · have h1' := n_lt.mp h1
    rw [n_0] at h1'
    rw [if_pos h1, if_neg (by omega)]
  · have h1' : ¬ n.toInt < (0 : Int32).toInt := fun q => h1 (n_lt.mpr q)
    rw [n_0] at h1'
    rw [if_neg h1]
    by_cases h2 : nI 6 < n
    · have h2' := n_lt.mp h2
      rw [if_pos h2, if_neg (by omega)]
    · have h2' : ¬ (nI 6).toInt < n.toInt := fun q => h2 (n_lt.mpr q)
      rw [if_neg h2, if_pos (by omega)]
theorem z10 : (nI 1 = (0 : Int32)) = False := eq_false (by decide)
theorem z00 : (nI 0 = (0 : Int32)) = True := eq_true (by decide)
theorem z20 : (nI 2 = (0 : Int32)) = False := eq_false (by decide)
theorem z30 : (nI 3 = (0 : Int32)) = False := eq_false (by decide)
theorem y10 : (nI 1 ≤ (0 : Int32)) = False := eq_false (by decide)
theorem y00 : (nI 0 ≤ (0 : Int32)) = True := eq_true (by decide)
theorem y20 : (nI 2 ≤ (0 : Int32)) = False := eq_false (by decide)
theorem y30 : (nI 3 ≤ (0 : Int32)) = False := eq_false (by decide)
theorem e21 : ((2 : Nat) = 1) = False := eq_false (by decide)
theorem e31 : ((3 : Nat) = 1) = False := eq_false (by decide)
theorem e32 : ((3 : Nat) = 2) = False := eq_false (by decide)
theorem e23 : ((2 : Nat) = 3) = False := eq_false (by decide)
set_option maxHeartbeats 8000000 in
theorem t_capacity (s : Int32) (a b c : Nat → Int32) (n lo hi : Int32) : (∃ k : Int32, p_hCapacity s a b c n lo hi = (k, a, b, c) ∧ p_mCapacity s a b c n lo hi = (k, a, b, c)) ∨ ((0 ≤ n.toInt ∧ n.toInt < 6) ∧ ((nI 1).toInt ≤ lo.toInt ∧ lo.toInt ≤ (nI 10000).toInt) ∧ (lo.toInt ≤ hi.toInt ∧ hi.toInt ≤ (nI 10000).toInt) ∧ (s = 0) ∧ p_hCapacity s a b c n lo hi = (nI 0, upd a n.toNatClampNeg lo, upd b n.toNatClampNeg hi, upd c n.toNatClampNeg lo) ∧ p_mCapacity s a b c n lo hi = (nI 0, upd a n.toNatClampNeg lo, upd b n.toNatClampNeg hi, upd c n.toNatClampNeg lo)) := by
  unfold p_hCapacity p_gCapacity p_setCapacity p_mCapacity
  simp only [w_idx (show (nI 6).toInt = 6 by decide), w_rng, w_mwi, w_node]
  by_cases hA : 0 ≤ n.toInt ∧ n.toInt < 6
  · skip
    by_cases hB : (nI 1).toInt ≤ lo.toInt ∧ lo.toInt ≤ (nI 10000).toInt
    · skip
      by_cases hC : lo.toInt ≤ hi.toInt ∧ hi.toInt ≤ (nI 10000).toInt
      · skip
        by_cases hS : s = 0
        · skip
          exact Or.inr ⟨hA, hB, hC, hS, by simp only [hA, hB, hC, hS, tx_then, tx_case, ap1, ap2, ap3, ap4, p_mUnsealed, p_mShut, p_gNeedUnsealed, p_gNeedSealed, z10, z00, z20, z30, y10, y00, y20, y30, e21, e31, e32, e23, if_true, if_false, and_true, true_and, and_false, false_and, and_self, not_true_eq_false, not_false_eq_true, ite_self], by simp only [hA, hB, hC, hS, tx_then, tx_case, ap1, ap2, ap3, ap4, p_mUnsealed, p_mShut, p_gNeedUnsealed, p_gNeedSealed, z10, z00, z20, z30, y10, y00, y20, y30, e21, e31, e32, e23, if_true, if_false, and_true, true_and, and_false, false_and, and_self, not_true_eq_false, not_false_eq_true, ite_self]⟩
        · exact Or.inl ⟨nI 3, by simp only [hA, hB, hC, hS, tx_then, tx_case, ap1, ap2, ap3, ap4, p_mUnsealed, p_mShut, p_gNeedUnsealed, p_gNeedSealed, z10, z00, z20, z30, y10, y00, y20, y30, e21, e31, e32, e23, if_true, if_false, and_true, true_and, and_false, false_and, and_self, not_true_eq_false, not_false_eq_true, ite_self], by simp only [hA, hB, hC, hS, tx_then, tx_case, ap1, ap2, ap3, ap4, p_mUnsealed, p_mShut, p_gNeedUnsealed, p_gNeedSealed, z10, z00, z20, z30, y10, y00, y20, y30, e21, e31, e32, e23, if_true, if_false, and_true, true_and, and_false, false_and, and_self, not_true_eq_false, not_false_eq_true, ite_self]⟩
      · exact Or.inl ⟨nI 2, by simp only [hA, hB, hC, tx_then, tx_case, ap1, ap2, ap3, ap4, p_mUnsealed, p_mShut, p_gNeedUnsealed, p_gNeedSealed, z10, z00, z20, z30, y10, y00, y20, y30, e21, e31, e32, e23, if_true, if_false, and_true, true_and, and_false, false_and, and_self, not_true_eq_false, not_false_eq_true, ite_self], by simp only [hA, hB, hC, tx_then, tx_case, ap1, ap2, ap3, ap4, p_mUnsealed, p_mShut, p_gNeedUnsealed, p_gNeedSealed, z10, z00, z20, z30, y10, y00, y20, y30, e21, e31, e32, e23, if_true, if_false, and_true, true_and, and_false, false_and, and_self, not_true_eq_false, not_false_eq_true, ite_self]⟩
    · exact Or.inl ⟨nI 2, by simp only [hA, hB, tx_then, tx_case, ap1, ap2, ap3, ap4, p_mUnsealed, p_mShut, p_gNeedUnsealed, p_gNeedSealed, z10, z00, z20, z30, y10, y00, y20, y30, e21, e31, e32, e23, if_true, if_false, and_true, true_and, and_false, false_and, and_self, not_true_eq_false, not_false_eq_true, ite_self], by simp only [hA, hB, tx_then, tx_case, ap1, ap2, ap3, ap4, p_mUnsealed, p_mShut, p_gNeedUnsealed, p_gNeedSealed, z10, z00, z20, z30, y10, y00, y20, y30, e21, e31, e32, e23, if_true, if_false, and_true, true_and, and_false, false_and, and_self, not_true_eq_false, not_false_eq_true, ite_self]⟩
  · exact Or.inl ⟨nI 1, by simp only [hA, tx_then, tx_case, ap1, ap2, ap3, ap4, p_mUnsealed, p_mShut, p_gNeedUnsealed, p_gNeedSealed, z10, z00, z20, z30, y10, y00, y20, y30, e21, e31, e32, e23, if_true, if_false, and_true, true_and, and_false, false_and, and_self, not_true_eq_false, not_false_eq_true, ite_self], by simp only [hA, tx_then, tx_case, ap1, ap2, ap3, ap4, p_mUnsealed, p_mShut, p_gNeedUnsealed, p_gNeedSealed, z10, z00, z20, z30, y10, y00, y20, y30, e21, e31, e32, e23, if_true, if_false, and_true, true_and, and_false, false_and, and_self, not_true_eq_false, not_false_eq_true, ite_self]⟩
set_option maxHeartbeats 8000000 in
theorem t_limit (s : Int32) (a : Nat → Int32) (n t : Int32) : (∃ k : Int32, p_hLimit s a n t = (k, a) ∧ p_mLimit s a n t = (k, a)) ∨ ((0 ≤ n.toInt ∧ n.toInt < 6) ∧ ((nI 0).toInt ≤ t.toInt ∧ t.toInt ≤ (nI 50000).toInt) ∧ (s = 0) ∧ p_hLimit s a n t = (nI 0, upd a n.toNatClampNeg t) ∧ p_mLimit s a n t = (nI 0, upd a n.toNatClampNeg t)) := by
  unfold p_hLimit p_gLimit p_mLimit
  simp only [w_idx (show (nI 6).toInt = 6 by decide), w_wit, w_mwi, w_node]
  by_cases hA : 0 ≤ n.toInt ∧ n.toInt < 6
  · skip
    by_cases hB : (nI 0).toInt ≤ t.toInt ∧ t.toInt ≤ (nI 50000).toInt
    · skip
      by_cases hS : s = 0
      · skip
        exact Or.inr ⟨hA, hB, hS, by simp only [hA, hB, hS, tx_then, tx_case, ap1, ap2, ap3, ap4, p_mUnsealed, p_mShut, p_gNeedUnsealed, p_gNeedSealed, z10, z00, z20, z30, y10, y00, y20, y30, e21, e31, e32, e23, if_true, if_false, and_true, true_and, and_false, false_and, and_self, not_true_eq_false, not_false_eq_true, ite_self], by simp only [hA, hB, hS, tx_then, tx_case, ap1, ap2, ap3, ap4, p_mUnsealed, p_mShut, p_gNeedUnsealed, p_gNeedSealed, z10, z00, z20, z30, y10, y00, y20, y30, e21, e31, e32, e23, if_true, if_false, and_true, true_and, and_false, false_and, and_self, not_true_eq_false, not_false_eq_true, ite_self]⟩
      · exact Or.inl ⟨nI 3, by simp only [hA, hB, hS, tx_then, tx_case, ap1, ap2, ap3, ap4, p_mUnsealed, p_mShut, p_gNeedUnsealed, p_gNeedSealed, z10, z00, z20, z30, y10, y00, y20, y30, e21, e31, e32, e23, if_true, if_false, and_true, true_and, and_false, false_and, and_self, not_true_eq_false, not_false_eq_true, ite_self], by simp only [hA, hB, hS, tx_then, tx_case, ap1, ap2, ap3, ap4, p_mUnsealed, p_mShut, p_gNeedUnsealed, p_gNeedSealed, z10, z00, z20, z30, y10, y00, y20, y30, e21, e31, e32, e23, if_true, if_false, and_true, true_and, and_false, false_and, and_self, not_true_eq_false, not_false_eq_true, ite_self]⟩
    · exact Or.inl ⟨nI 2, by simp only [hA, hB, tx_then, tx_case, ap1, ap2, ap3, ap4, p_mUnsealed, p_mShut, p_gNeedUnsealed, p_gNeedSealed, z10, z00, z20, z30, y10, y00, y20, y30, e21, e31, e32, e23, if_true, if_false, and_true, true_and, and_false, false_and, and_self, not_true_eq_false, not_false_eq_true, ite_self], by simp only [hA, hB, tx_then, tx_case, ap1, ap2, ap3, ap4, p_mUnsealed, p_mShut, p_gNeedUnsealed, p_gNeedSealed, z10, z00, z20, z30, y10, y00, y20, y30, e21, e31, e32, e23, if_true, if_false, and_true, true_and, and_false, false_and, and_self, not_true_eq_false, not_false_eq_true, ite_self]⟩
  · exact Or.inl ⟨nI 1, by simp only [hA, tx_then, tx_case, ap1, ap2, ap3, ap4, p_mUnsealed, p_mShut, p_gNeedUnsealed, p_gNeedSealed, z10, z00, z20, z30, y10, y00, y20, y30, e21, e31, e32, e23, if_true, if_false, and_true, true_and, and_false, false_and, and_self, not_true_eq_false, not_false_eq_true, ite_self], by simp only [hA, tx_then, tx_case, ap1, ap2, ap3, ap4, p_mUnsealed, p_mShut, p_gNeedUnsealed, p_gNeedSealed, z10, z00, z20, z30, y10, y00, y20, y30, e21, e31, e32, e23, if_true, if_false, and_true, true_and, and_false, false_and, and_self, not_true_eq_false, not_false_eq_true, ite_self]⟩
set_option maxHeartbeats 8000000 in
theorem t_leak (s a b c d ba sl st kn : Int32) : (∃ k : Int32, p_hLeak s a b c d ba sl st kn = (k, a, b, c, d) ∧ p_mLeak s a b c d ba sl st kn = (k, a, b, c, d)) ∨ (((nI 0).toInt ≤ ba.toInt ∧ ba.toInt ≤ (nI 100000).toInt) ∧ ((nI 0).toInt ≤ sl.toInt ∧ sl.toInt ≤ (nI 100).toInt) ∧ ((nI 0).toInt ≤ st.toInt ∧ st.toInt ≤ (nI 100).toInt) ∧ ((nI 0).toInt ≤ kn.toInt ∧ kn.toInt ≤ (nI 50000).toInt) ∧ (s = 0) ∧ p_hLeak s a b c d ba sl st kn = (nI 0, ba, sl, st, kn) ∧ p_mLeak s a b c d ba sl st kn = (nI 0, ba, sl, st, kn)) := by
  unfold p_hLeak p_gLeak p_setLeak p_mLeak
  simp only [w_wit, w_mwi]
  by_cases hA : (nI 0).toInt ≤ ba.toInt ∧ ba.toInt ≤ (nI 100000).toInt
  · skip
    by_cases hB : (nI 0).toInt ≤ sl.toInt ∧ sl.toInt ≤ (nI 100).toInt
    · skip
      by_cases hC : (nI 0).toInt ≤ st.toInt ∧ st.toInt ≤ (nI 100).toInt
      · skip
        by_cases hD : (nI 0).toInt ≤ kn.toInt ∧ kn.toInt ≤ (nI 50000).toInt
        · skip
          by_cases hS : s = 0
          · skip
            exact Or.inr ⟨hA, hB, hC, hD, hS, by simp only [hA, hB, hC, hD, hS, tx_then, tx_case, ap1, ap2, ap3, ap4, p_mUnsealed, p_mShut, p_gNeedUnsealed, p_gNeedSealed, z10, z00, z20, z30, y10, y00, y20, y30, e21, e31, e32, e23, if_true, if_false, and_true, true_and, and_false, false_and, and_self, not_true_eq_false, not_false_eq_true, ite_self], by simp only [hA, hB, hC, hD, hS, tx_then, tx_case, ap1, ap2, ap3, ap4, p_mUnsealed, p_mShut, p_gNeedUnsealed, p_gNeedSealed, z10, z00, z20, z30, y10, y00, y20, y30, e21, e31, e32, e23, if_true, if_false, and_true, true_and, and_false, false_and, and_self, not_true_eq_false, not_false_eq_true, ite_self]⟩
          · exact Or.inl ⟨nI 2, by simp only [hA, hB, hC, hD, hS, tx_then, tx_case, ap1, ap2, ap3, ap4, p_mUnsealed, p_mShut, p_gNeedUnsealed, p_gNeedSealed, z10, z00, z20, z30, y10, y00, y20, y30, e21, e31, e32, e23, if_true, if_false, and_true, true_and, and_false, false_and, and_self, not_true_eq_false, not_false_eq_true, ite_self], by simp only [hA, hB, hC, hD, hS, tx_then, tx_case, ap1, ap2, ap3, ap4, p_mUnsealed, p_mShut, p_gNeedUnsealed, p_gNeedSealed, z10, z00, z20, z30, y10, y00, y20, y30, e21, e31, e32, e23, if_true, if_false, and_true, true_and, and_false, false_and, and_self, not_true_eq_false, not_false_eq_true, ite_self]⟩
        · exact Or.inl ⟨nI 1, by simp only [hA, hB, hC, hD, tx_then, tx_case, ap1, ap2, ap3, ap4, p_mUnsealed, p_mShut, p_gNeedUnsealed, p_gNeedSealed, z10, z00, z20, z30, y10, y00, y20, y30, e21, e31, e32, e23, if_true, if_false, and_true, true_and, and_false, false_and, and_self, not_true_eq_false, not_false_eq_true, ite_self], by simp only [hA, hB, hC, hD, tx_then, tx_case, ap1, ap2, ap3, ap4, p_mUnsealed, p_mShut, p_gNeedUnsealed, p_gNeedSealed, z10, z00, z20, z30, y10, y00, y20, y30, e21, e31, e32, e23, if_true, if_false, and_true, true_and, and_false, false_and, and_self, not_true_eq_false, not_false_eq_true, ite_self]⟩
      · exact Or.inl ⟨nI 1, by simp only [hA, hB, hC, tx_then, tx_case, ap1, ap2, ap3, ap4, p_mUnsealed, p_mShut, p_gNeedUnsealed, p_gNeedSealed, z10, z00, z20, z30, y10, y00, y20, y30, e21, e31, e32, e23, if_true, if_false, and_true, true_and, and_false, false_and, and_self, not_true_eq_false, not_false_eq_true, ite_self], by simp only [hA, hB, hC, tx_then, tx_case, ap1, ap2, ap3, ap4, p_mUnsealed, p_mShut, p_gNeedUnsealed, p_gNeedSealed, z10, z00, z20, z30, y10, y00, y20, y30, e21, e31, e32, e23, if_true, if_false, and_true, true_and, and_false, false_and, and_self, not_true_eq_false, not_false_eq_true, ite_self]⟩
    · exact Or.inl ⟨nI 1, by simp only [hA, hB, tx_then, tx_case, ap1, ap2, ap3, ap4, p_mUnsealed, p_mShut, p_gNeedUnsealed, p_gNeedSealed, z10, z00, z20, z30, y10, y00, y20, y30, e21, e31, e32, e23, if_true, if_false, and_true, true_and, and_false, false_and, and_self, not_true_eq_false, not_false_eq_true, ite_self], by simp only [hA, hB, tx_then, tx_case, ap1, ap2, ap3, ap4, p_mUnsealed, p_mShut, p_gNeedUnsealed, p_gNeedSealed, z10, z00, z20, z30, y10, y00, y20, y30, e21, e31, e32, e23, if_true, if_false, and_true, true_and, and_false, false_and, and_self, not_true_eq_false, not_false_eq_true, ite_self]⟩
  · exact Or.inl ⟨nI 1, by simp only [hA, tx_then, tx_case, ap1, ap2, ap3, ap4, p_mUnsealed, p_mShut, p_gNeedUnsealed, p_gNeedSealed, z10, z00, z20, z30, y10, y00, y20, y30, e21, e31, e32, e23, if_true, if_false, and_true, true_and, and_false, false_and, and_self, not_true_eq_false, not_false_eq_true, ite_self], by simp only [hA, tx_then, tx_case, ap1, ap2, ap3, ap4, p_mUnsealed, p_mShut, p_gNeedUnsealed, p_gNeedSealed, z10, z00, z20, z30, y10, y00, y20, y30, e21, e31, e32, e23, if_true, if_false, and_true, true_and, and_false, false_and, and_self, not_true_eq_false, not_false_eq_true, ite_self]⟩
theorem ed_eq {x y : Int32} (h : x = y) : x.toNatClampNeg = y.toNatClampNeg := by rw [h]
theorem ed_ne {x y : Int32} (hA : 0 ≤ x.toInt ∧ x.toInt < 7) (hB : 0 ≤ y.toInt ∧ y.toInt < 7) (h : ¬ x = y) : ¬ x.toNatClampNeg = y.toNatClampNeg := fun e => h (n_eq.mpr (by have h1 := n_clamp hA.1; have h2 := n_clamp hB.1; omega))
set_option maxHeartbeats 8000000 in
theorem t_edge (s : Int32) (a b c : Nat → Int32) (x y lo hi : Int32) : (∃ k : Int32, p_hEdge s a b c x y lo hi = (k, a, b, c) ∧ p_mEdge s a b c x y lo hi = (k, a, b, c)) ∨ ((0 ≤ x.toInt ∧ x.toInt < 7) ∧ (0 ≤ y.toInt ∧ y.toInt < 7) ∧ (¬ x = y) ∧ ((nI 0).toInt ≤ lo.toInt ∧ lo.toInt ≤ (nI 500).toInt) ∧ (lo.toInt ≤ hi.toInt ∧ hi.toInt ≤ (nI 500).toInt) ∧ (s = 0) ∧ p_hEdge s a b c x y lo hi = (nI 0, upd (upd a (x.toNatClampNeg * 7 + y.toNatClampNeg) lo) (y.toNatClampNeg * 7 + x.toNatClampNeg) lo, upd (upd b (x.toNatClampNeg * 7 + y.toNatClampNeg) hi) (y.toNatClampNeg * 7 + x.toNatClampNeg) hi, upd (upd c (x.toNatClampNeg * 7 + y.toNatClampNeg) lo) (y.toNatClampNeg * 7 + x.toNatClampNeg) lo) ∧ p_mEdge s a b c x y lo hi = (nI 0, upd (upd a (x.toNatClampNeg * 7 + y.toNatClampNeg) lo) (y.toNatClampNeg * 7 + x.toNatClampNeg) lo, upd (upd b (x.toNatClampNeg * 7 + y.toNatClampNeg) hi) (y.toNatClampNeg * 7 + x.toNatClampNeg) hi, upd (upd c (x.toNatClampNeg * 7 + y.toNatClampNeg) lo) (y.toNatClampNeg * 7 + x.toNatClampNeg) lo)) := by
  unfold p_hEdge p_gEdge p_setEdge p_setTrueEdge p_mEdge
  simp only [w_idx (show (nI 7).toInt = 7 by decide), w_rng, w_mwi, w_end, p_mEdge_63, Nat.mul_comm 7, Nat.zero_add]
  by_cases hA : 0 ≤ x.toInt ∧ x.toInt < 7
  · skip
    by_cases hB : 0 ≤ y.toInt ∧ y.toInt < 7
    · skip
      by_cases hE : ¬ x = y
      · skip
        have hE2 := ed_ne hA hB hE
        by_cases hR : (nI 0).toInt ≤ lo.toInt ∧ lo.toInt ≤ (nI 500).toInt
        · skip
          by_cases hQ : lo.toInt ≤ hi.toInt ∧ hi.toInt ≤ (nI 500).toInt
          · skip
            by_cases hS : s = 0
            · skip
              exact Or.inr ⟨hA, hB, hE, hR, hQ, hS, by simp only [hA, hB, hE, hE2, hR, hQ, hS, tx_then, tx_case, ap1, ap2, ap3, ap4, p_mUnsealed, p_mShut, p_gNeedUnsealed, p_gNeedSealed, z10, z00, z20, z30, y10, y00, y20, y30, e21, e31, e32, e23, if_true, if_false, and_true, true_and, and_false, false_and, and_self, not_true_eq_false, not_false_eq_true, ite_self], by simp only [hA, hB, hE, hE2, hR, hQ, hS, tx_then, tx_case, ap1, ap2, ap3, ap4, p_mUnsealed, p_mShut, p_gNeedUnsealed, p_gNeedSealed, z10, z00, z20, z30, y10, y00, y20, y30, e21, e31, e32, e23, if_true, if_false, and_true, true_and, and_false, false_and, and_self, not_true_eq_false, not_false_eq_true, ite_self]⟩
            · exact Or.inl ⟨nI 3, by simp only [hA, hB, hE, hE2, hR, hQ, hS, tx_then, tx_case, ap1, ap2, ap3, ap4, p_mUnsealed, p_mShut, p_gNeedUnsealed, p_gNeedSealed, z10, z00, z20, z30, y10, y00, y20, y30, e21, e31, e32, e23, if_true, if_false, and_true, true_and, and_false, false_and, and_self, not_true_eq_false, not_false_eq_true, ite_self], by simp only [hA, hB, hE, hE2, hR, hQ, hS, tx_then, tx_case, ap1, ap2, ap3, ap4, p_mUnsealed, p_mShut, p_gNeedUnsealed, p_gNeedSealed, z10, z00, z20, z30, y10, y00, y20, y30, e21, e31, e32, e23, if_true, if_false, and_true, true_and, and_false, false_and, and_self, not_true_eq_false, not_false_eq_true, ite_self]⟩
          · exact Or.inl ⟨nI 2, by simp only [hA, hB, hE, hE2, hR, hQ, tx_then, tx_case, ap1, ap2, ap3, ap4, p_mUnsealed, p_mShut, p_gNeedUnsealed, p_gNeedSealed, z10, z00, z20, z30, y10, y00, y20, y30, e21, e31, e32, e23, if_true, if_false, and_true, true_and, and_false, false_and, and_self, not_true_eq_false, not_false_eq_true, ite_self], by simp only [hA, hB, hE, hE2, hR, hQ, tx_then, tx_case, ap1, ap2, ap3, ap4, p_mUnsealed, p_mShut, p_gNeedUnsealed, p_gNeedSealed, z10, z00, z20, z30, y10, y00, y20, y30, e21, e31, e32, e23, if_true, if_false, and_true, true_and, and_false, false_and, and_self, not_true_eq_false, not_false_eq_true, ite_self]⟩
        · exact Or.inl ⟨nI 2, by simp only [hA, hB, hE, hE2, hR, tx_then, tx_case, ap1, ap2, ap3, ap4, p_mUnsealed, p_mShut, p_gNeedUnsealed, p_gNeedSealed, z10, z00, z20, z30, y10, y00, y20, y30, e21, e31, e32, e23, if_true, if_false, and_true, true_and, and_false, false_and, and_self, not_true_eq_false, not_false_eq_true, ite_self], by simp only [hA, hB, hE, hE2, hR, tx_then, tx_case, ap1, ap2, ap3, ap4, p_mUnsealed, p_mShut, p_gNeedUnsealed, p_gNeedSealed, z10, z00, z20, z30, y10, y00, y20, y30, e21, e31, e32, e23, if_true, if_false, and_true, true_and, and_false, false_and, and_self, not_true_eq_false, not_false_eq_true, ite_self]⟩
      · have hE2 := ed_eq (Decidable.not_not.mp hE)
        have hE3 := Decidable.not_not.mp hE
        exact Or.inl ⟨nI 1, by simp only [hA, hB, hE, hE2, hE3, tx_then, tx_case, ap1, ap2, ap3, ap4, p_mUnsealed, p_mShut, p_gNeedUnsealed, p_gNeedSealed, z10, z00, z20, z30, y10, y00, y20, y30, e21, e31, e32, e23, if_true, if_false, and_true, true_and, and_false, false_and, and_self, not_true_eq_false, not_false_eq_true, ite_self], by simp only [hA, hB, hE, hE2, hE3, tx_then, tx_case, ap1, ap2, ap3, ap4, p_mUnsealed, p_mShut, p_gNeedUnsealed, p_gNeedSealed, z10, z00, z20, z30, y10, y00, y20, y30, e21, e31, e32, e23, if_true, if_false, and_true, true_and, and_false, false_and, and_self, not_true_eq_false, not_false_eq_true, ite_self]⟩
    · exact Or.inl ⟨nI 1, by simp only [hA, hB, tx_then, tx_case, ap1, ap2, ap3, ap4, p_mUnsealed, p_mShut, p_gNeedUnsealed, p_gNeedSealed, z10, z00, z20, z30, y10, y00, y20, y30, e21, e31, e32, e23, if_true, if_false, and_true, true_and, and_false, false_and, and_self, not_true_eq_false, not_false_eq_true, ite_self], by simp only [hA, hB, tx_then, tx_case, ap1, ap2, ap3, ap4, p_mUnsealed, p_mShut, p_gNeedUnsealed, p_gNeedSealed, z10, z00, z20, z30, y10, y00, y20, y30, e21, e31, e32, e23, if_true, if_false, and_true, true_and, and_false, false_and, and_self, not_true_eq_false, not_false_eq_true, ite_self]⟩
  · exact Or.inl ⟨nI 1, by simp only [hA, tx_then, tx_case, ap1, ap2, ap3, ap4, p_mUnsealed, p_mShut, p_gNeedUnsealed, p_gNeedSealed, z10, z00, z20, z30, y10, y00, y20, y30, e21, e31, e32, e23, if_true, if_false, and_true, true_and, and_false, false_and, and_self, not_true_eq_false, not_false_eq_true, ite_self], by simp only [hA, tx_then, tx_case, ap1, ap2, ap3, ap4, p_mUnsealed, p_mShut, p_gNeedUnsealed, p_gNeedSealed, z10, z00, z20, z30, y10, y00, y20, y30, e21, e31, e32, e23, if_true, if_false, and_true, true_and, and_false, false_and, and_self, not_true_eq_false, not_false_eq_true, ite_self]⟩
set_option maxHeartbeats 8000000 in
theorem t_ask (s : Int32) (a b a9 b9 : Nat → Int32) (n st ra : Int32) : (∃ k : Int32, p_hAsk s a b n st ra = (k, a, b) ∧ p_mAsk s a9 b9 n st ra = (k, a9, b9)) ∨ ((0 ≤ n.toInt ∧ n.toInt < 4) ∧ ((nI 0).toInt ≤ st.toInt ∧ st.toInt ≤ (nI 3).toInt) ∧ ((nI 0).toInt ≤ ra.toInt ∧ ra.toInt ≤ (nI 9).toInt) ∧ (¬ s = 0) ∧ p_hAsk s a b n st ra = (nI 0, upd a n.toNatClampNeg st, upd b n.toNatClampNeg ra) ∧ p_mAsk s a9 b9 n st ra = (nI 0, upd a9 n.toNatClampNeg st, upd b9 n.toNatClampNeg ra)) := by
  unfold p_hAsk p_gAsk p_mAsk
  simp only [w_idx (show (nI 4).toInt = 4 by decide), w_wit, w_mwi, w_core]
  by_cases hA : 0 ≤ n.toInt ∧ n.toInt < 4
  · skip
    by_cases hB : (nI 0).toInt ≤ st.toInt ∧ st.toInt ≤ (nI 3).toInt
    · skip
      by_cases hC : (nI 0).toInt ≤ ra.toInt ∧ ra.toInt ≤ (nI 9).toInt
      · skip
        by_cases hS : ¬ s = 0
        · skip
          exact Or.inr ⟨hA, hB, hC, hS, by simp only [hA, hB, hC, hS, tx_then, tx_case, ap1, ap2, ap3, ap4, p_mUnsealed, p_mShut, p_gNeedUnsealed, p_gNeedSealed, z10, z00, z20, z30, y10, y00, y20, y30, e21, e31, e32, e23, if_true, if_false, and_true, true_and, and_false, false_and, and_self, not_true_eq_false, not_false_eq_true, ite_self], by simp only [hA, hB, hC, hS, tx_then, tx_case, ap1, ap2, ap3, ap4, p_mUnsealed, p_mShut, p_gNeedUnsealed, p_gNeedSealed, z10, z00, z20, z30, y10, y00, y20, y30, e21, e31, e32, e23, if_true, if_false, and_true, true_and, and_false, false_and, and_self, not_true_eq_false, not_false_eq_true, ite_self]⟩
        · have hS3 := Decidable.not_not.mp hS
          exact Or.inl ⟨nI 3, by simp only [hA, hB, hC, hS, hS3, tx_then, tx_case, ap1, ap2, ap3, ap4, p_mUnsealed, p_mShut, p_gNeedUnsealed, p_gNeedSealed, z10, z00, z20, z30, y10, y00, y20, y30, e21, e31, e32, e23, if_true, if_false, and_true, true_and, and_false, false_and, and_self, not_true_eq_false, not_false_eq_true, ite_self], by simp only [hA, hB, hC, hS, hS3, tx_then, tx_case, ap1, ap2, ap3, ap4, p_mUnsealed, p_mShut, p_gNeedUnsealed, p_gNeedSealed, z10, z00, z20, z30, y10, y00, y20, y30, e21, e31, e32, e23, if_true, if_false, and_true, true_and, and_false, false_and, and_self, not_true_eq_false, not_false_eq_true, ite_self]⟩
      · exact Or.inl ⟨nI 2, by simp only [hA, hB, hC, tx_then, tx_case, ap1, ap2, ap3, ap4, p_mUnsealed, p_mShut, p_gNeedUnsealed, p_gNeedSealed, z10, z00, z20, z30, y10, y00, y20, y30, e21, e31, e32, e23, if_true, if_false, and_true, true_and, and_false, false_and, and_self, not_true_eq_false, not_false_eq_true, ite_self], by simp only [hA, hB, hC, tx_then, tx_case, ap1, ap2, ap3, ap4, p_mUnsealed, p_mShut, p_gNeedUnsealed, p_gNeedSealed, z10, z00, z20, z30, y10, y00, y20, y30, e21, e31, e32, e23, if_true, if_false, and_true, true_and, and_false, false_and, and_self, not_true_eq_false, not_false_eq_true, ite_self]⟩
    · exact Or.inl ⟨nI 2, by simp only [hA, hB, tx_then, tx_case, ap1, ap2, ap3, ap4, p_mUnsealed, p_mShut, p_gNeedUnsealed, p_gNeedSealed, z10, z00, z20, z30, y10, y00, y20, y30, e21, e31, e32, e23, if_true, if_false, and_true, true_and, and_false, false_and, and_self, not_true_eq_false, not_false_eq_true, ite_self], by simp only [hA, hB, tx_then, tx_case, ap1, ap2, ap3, ap4, p_mUnsealed, p_mShut, p_gNeedUnsealed, p_gNeedSealed, z10, z00, z20, z30, y10, y00, y20, y30, e21, e31, e32, e23, if_true, if_false, and_true, true_and, and_false, false_and, and_self, not_true_eq_false, not_false_eq_true, ite_self]⟩
  · exact Or.inl ⟨nI 1, by simp only [hA, tx_then, tx_case, ap1, ap2, ap3, ap4, p_mUnsealed, p_mShut, p_gNeedUnsealed, p_gNeedSealed, z10, z00, z20, z30, y10, y00, y20, y30, e21, e31, e32, e23, if_true, if_false, and_true, true_and, and_false, false_and, and_self, not_true_eq_false, not_false_eq_true, ite_self], by simp only [hA, tx_then, tx_case, ap1, ap2, ap3, ap4, p_mUnsealed, p_mShut, p_gNeedUnsealed, p_gNeedSealed, z10, z00, z20, z30, y10, y00, y20, y30, e21, e31, e32, e23, if_true, if_false, and_true, true_and, and_false, false_and, and_self, not_true_eq_false, not_false_eq_true, ite_self]⟩
set_option maxHeartbeats 8000000 in
theorem t_draw (s : Int32) (a a9 : Nat → Int32) (n pw : Int32) : (∃ k : Int32, p_hDraw s a n pw = (k, a) ∧ p_mDraw s a9 n pw = (k, a9)) ∨ ((0 ≤ n.toInt ∧ n.toInt < 4) ∧ ((nI 0).toInt ≤ pw.toInt ∧ pw.toInt ≤ (nI 1000000).toInt) ∧ (¬ s = 0) ∧ p_hDraw s a n pw = (nI 0, upd a n.toNatClampNeg pw) ∧ p_mDraw s a9 n pw = (nI 0, upd a9 n.toNatClampNeg pw)) := by
  unfold p_hDraw p_gDraw p_mDraw
  simp only [w_idx (show (nI 4).toInt = 4 by decide), w_wit, w_mwi, w_core]
  by_cases hA : 0 ≤ n.toInt ∧ n.toInt < 4
  · skip
    by_cases hB : (nI 0).toInt ≤ pw.toInt ∧ pw.toInt ≤ (nI 1000000).toInt
    · skip
      by_cases hS : ¬ s = 0
      · skip
        exact Or.inr ⟨hA, hB, hS, by simp only [hA, hB, hS, tx_then, tx_case, ap1, ap2, ap3, ap4, p_mUnsealed, p_mShut, p_gNeedUnsealed, p_gNeedSealed, z10, z00, z20, z30, y10, y00, y20, y30, e21, e31, e32, e23, if_true, if_false, and_true, true_and, and_false, false_and, and_self, not_true_eq_false, not_false_eq_true, ite_self], by simp only [hA, hB, hS, tx_then, tx_case, ap1, ap2, ap3, ap4, p_mUnsealed, p_mShut, p_gNeedUnsealed, p_gNeedSealed, z10, z00, z20, z30, y10, y00, y20, y30, e21, e31, e32, e23, if_true, if_false, and_true, true_and, and_false, false_and, and_self, not_true_eq_false, not_false_eq_true, ite_self]⟩
      · have hS3 := Decidable.not_not.mp hS
        exact Or.inl ⟨nI 3, by simp only [hA, hB, hS, hS3, tx_then, tx_case, ap1, ap2, ap3, ap4, p_mUnsealed, p_mShut, p_gNeedUnsealed, p_gNeedSealed, z10, z00, z20, z30, y10, y00, y20, y30, e21, e31, e32, e23, if_true, if_false, and_true, true_and, and_false, false_and, and_self, not_true_eq_false, not_false_eq_true, ite_self], by simp only [hA, hB, hS, hS3, tx_then, tx_case, ap1, ap2, ap3, ap4, p_mUnsealed, p_mShut, p_gNeedUnsealed, p_gNeedSealed, z10, z00, z20, z30, y10, y00, y20, y30, e21, e31, e32, e23, if_true, if_false, and_true, true_and, and_false, false_and, and_self, not_true_eq_false, not_false_eq_true, ite_self]⟩
    · exact Or.inl ⟨nI 2, by simp only [hA, hB, tx_then, tx_case, ap1, ap2, ap3, ap4, p_mUnsealed, p_mShut, p_gNeedUnsealed, p_gNeedSealed, z10, z00, z20, z30, y10, y00, y20, y30, e21, e31, e32, e23, if_true, if_false, and_true, true_and, and_false, false_and, and_self, not_true_eq_false, not_false_eq_true, ite_self], by simp only [hA, hB, tx_then, tx_case, ap1, ap2, ap3, ap4, p_mUnsealed, p_mShut, p_gNeedUnsealed, p_gNeedSealed, z10, z00, z20, z30, y10, y00, y20, y30, e21, e31, e32, e23, if_true, if_false, and_true, true_and, and_false, false_and, and_self, not_true_eq_false, not_false_eq_true, ite_self]⟩
  · exact Or.inl ⟨nI 1, by simp only [hA, tx_then, tx_case, ap1, ap2, ap3, ap4, p_mUnsealed, p_mShut, p_gNeedUnsealed, p_gNeedSealed, z10, z00, z20, z30, y10, y00, y20, y30, e21, e31, e32, e23, if_true, if_false, and_true, true_and, and_false, false_and, and_self, not_true_eq_false, not_false_eq_true, ite_self], by simp only [hA, tx_then, tx_case, ap1, ap2, ap3, ap4, p_mUnsealed, p_mShut, p_gNeedUnsealed, p_gNeedSealed, z10, z00, z20, z30, y10, y00, y20, y30, e21, e31, e32, e23, if_true, if_false, and_true, true_and, and_false, false_and, and_self, not_true_eq_false, not_false_eq_true, ite_self]⟩
set_option maxHeartbeats 8000000 in
theorem t_sensor (s : Int32) (a b a9 b9 : Nat → Int32) (n er li : Int32) : (∃ k : Int32, p_hSensor s a b n er li = (k, a, b) ∧ p_mSensor s a9 b9 n er li = (k, a9, b9)) ∨ ((0 ≤ n.toInt ∧ n.toInt < 6) ∧ ((-200 : Int32).toInt ≤ er.toInt ∧ er.toInt ≤ (nI 200).toInt) ∧ (¬ s = 0) ∧ p_hSensor s a b n er li = (nI 0, upd a n.toNatClampNeg er, upd b n.toNatClampNeg li) ∧ p_mSensor s a9 b9 n er li = (nI 0, upd a9 n.toNatClampNeg er, upd b9 n.toNatClampNeg (if li = 0 then nI 1 else nI 0))) := by
  unfold p_hSensor p_gSensor p_mSensor
  simp only [w_idx (show (nI 6).toInt = 6 by decide), w_wit, w_mwi, w_node]
  by_cases hA : 0 ≤ n.toInt ∧ n.toInt < 6
  · skip
    by_cases hB : (-200 : Int32).toInt ≤ er.toInt ∧ er.toInt ≤ (nI 200).toInt
    · skip
      by_cases hS : ¬ s = 0
      · skip
        refine Or.inr ⟨hA, hB, hS, by simp only [hA, hB, hS, tx_then, tx_case, ap1, ap2, ap3, ap4, p_mUnsealed, p_mShut, p_gNeedUnsealed, p_gNeedSealed, z10, z00, z20, z30, y10, y00, y20, y30, e21, e31, e32, e23, if_true, if_false, and_true, true_and, and_false, false_and, and_self, not_true_eq_false, not_false_eq_true, ite_self], ?_⟩
        by_cases hl : li = 0
        · simp only [hA, hB, hS, hl, tx_then, tx_case, ap1, ap2, ap3, ap4, p_mUnsealed, p_mShut, p_gNeedUnsealed, p_gNeedSealed, z10, z00, z20, z30, y10, y00, y20, y30, e21, e31, e32, e23, if_true, if_false, and_true, true_and, and_false, false_and, and_self, not_true_eq_false, not_false_eq_true, ite_self]
        · simp only [hA, hB, hS, hl, tx_then, tx_case, ap1, ap2, ap3, ap4, p_mUnsealed, p_mShut, p_gNeedUnsealed, p_gNeedSealed, z10, z00, z20, z30, y10, y00, y20, y30, e21, e31, e32, e23, if_true, if_false, and_true, true_and, and_false, false_and, and_self, not_true_eq_false, not_false_eq_true, ite_self]
      · have hS3 := Decidable.not_not.mp hS
        exact Or.inl ⟨nI 3, by simp only [hA, hB, hS, hS3, tx_then, tx_case, ap1, ap2, ap3, ap4, p_mUnsealed, p_mShut, p_gNeedUnsealed, p_gNeedSealed, z10, z00, z20, z30, y10, y00, y20, y30, e21, e31, e32, e23, if_true, if_false, and_true, true_and, and_false, false_and, and_self, not_true_eq_false, not_false_eq_true, ite_self], by simp only [hA, hB, hS, hS3, tx_then, tx_case, ap1, ap2, ap3, ap4, p_mUnsealed, p_mShut, p_gNeedUnsealed, p_gNeedSealed, z10, z00, z20, z30, y10, y00, y20, y30, e21, e31, e32, e23, if_true, if_false, and_true, true_and, and_false, false_and, and_self, not_true_eq_false, not_false_eq_true, ite_self]⟩
    · exact Or.inl ⟨nI 2, by simp only [hA, hB, tx_then, tx_case, ap1, ap2, ap3, ap4, p_mUnsealed, p_mShut, p_gNeedUnsealed, p_gNeedSealed, z10, z00, z20, z30, y10, y00, y20, y30, e21, e31, e32, e23, if_true, if_false, and_true, true_and, and_false, false_and, and_self, not_true_eq_false, not_false_eq_true, ite_self], by simp only [hA, hB, tx_then, tx_case, ap1, ap2, ap3, ap4, p_mUnsealed, p_mShut, p_gNeedUnsealed, p_gNeedSealed, z10, z00, z20, z30, y10, y00, y20, y30, e21, e31, e32, e23, if_true, if_false, and_true, true_and, and_false, false_and, and_self, not_true_eq_false, not_false_eq_true, ite_self]⟩
  · exact Or.inl ⟨nI 1, by simp only [hA, tx_then, tx_case, ap1, ap2, ap3, ap4, p_mUnsealed, p_mShut, p_gNeedUnsealed, p_gNeedSealed, z10, z00, z20, z30, y10, y00, y20, y30, e21, e31, e32, e23, if_true, if_false, and_true, true_and, and_false, false_and, and_self, not_true_eq_false, not_false_eq_true, ite_self], by simp only [hA, tx_then, tx_case, ap1, ap2, ap3, ap4, p_mUnsealed, p_mShut, p_gNeedUnsealed, p_gNeedSealed, z10, z00, z20, z30, y10, y00, y20, y30, e21, e31, e32, e23, if_true, if_false, and_true, true_and, and_false, false_and, and_self, not_true_eq_false, not_false_eq_true, ite_self]⟩
set_option maxHeartbeats 8000000 in
theorem t_air (s a b d lo tr hi : Int32) : (∃ k : Int32, p_hAir s a b lo tr hi = (k, a, b) ∧ p_mAir s d a b lo tr hi = (k, d, a, b)) ∨ (((0 ≤ lo.toInt ∧ lo.toInt ≤ 50000) ∧ (lo.toInt ≤ hi.toInt ∧ hi.toInt ≤ 50000)) ∧ (lo.toInt ≤ tr.toInt ∧ tr.toInt ≤ hi.toInt) ∧ (s = 0) ∧ p_hAir s a b lo tr hi = (nI 0, tr, hi) ∧ p_mAir s d a b lo tr hi = (nI 0, lo, tr, hi)) := by
  unfold p_hAir p_gAir p_mAir
  simp only [w_rng, w_wit, n_lt, n_le, n_0, show (nI 0).toInt = 0 by decide, show (nI 50000).toInt = 50000 by decide]
  by_cases hA : (0 ≤ lo.toInt ∧ lo.toInt ≤ 50000) ∧ (lo.toInt ≤ hi.toInt ∧ hi.toInt ≤ 50000)
  · by_cases hB : lo.toInt ≤ tr.toInt ∧ tr.toInt ≤ hi.toInt
    · have f1 : ¬ lo.toInt < 0 := by omega
      have f2 : ¬ tr.toInt < lo.toInt := by omega
      have f3 : ¬ hi.toInt < tr.toInt := by omega
      have f4 : hi.toInt ≤ 50000 := by omega
      by_cases hS : s = 0
      · exact Or.inr ⟨hA, hB, hS, by simp only [hA, hB, hS, tx_then, tx_case, ap1, ap2, ap3, ap4, p_mUnsealed, p_mShut, p_gNeedUnsealed, p_gNeedSealed, z10, z00, z20, z30, y10, y00, y20, y30, e21, e31, e32, e23, if_true, if_false, and_true, true_and, and_false, false_and, and_self, not_true_eq_false, not_false_eq_true, ite_self], by simp only [f1, f2, f3, f4, hS, tx_then, tx_case, ap1, ap2, ap3, ap4, p_mUnsealed, p_mShut, p_gNeedUnsealed, p_gNeedSealed, z10, z00, z20, z30, y10, y00, y20, y30, e21, e31, e32, e23, if_true, if_false, and_true, true_and, and_false, false_and, and_self, not_true_eq_false, not_false_eq_true, ite_self]⟩
      · exact Or.inl ⟨nI 2, by simp only [hA, hB, hS, tx_then, tx_case, ap1, ap2, ap3, ap4, p_mUnsealed, p_mShut, p_gNeedUnsealed, p_gNeedSealed, z10, z00, z20, z30, y10, y00, y20, y30, e21, e31, e32, e23, if_true, if_false, and_true, true_and, and_false, false_and, and_self, not_true_eq_false, not_false_eq_true, ite_self], by simp only [f1, f2, f3, f4, hS, tx_then, tx_case, ap1, ap2, ap3, ap4, p_mUnsealed, p_mShut, p_gNeedUnsealed, p_gNeedSealed, z10, z00, z20, z30, y10, y00, y20, y30, e21, e31, e32, e23, if_true, if_false, and_true, true_and, and_false, false_and, and_self, not_true_eq_false, not_false_eq_true, ite_self]⟩
    · refine Or.inl ⟨nI 1, by simp only [hA, hB, tx_then, tx_case, ap1, ap2, ap3, ap4, p_mUnsealed, p_mShut, p_gNeedUnsealed, p_gNeedSealed, z10, z00, z20, z30, y10, y00, y20, y30, e21, e31, e32, e23, if_true, if_false, and_true, true_and, and_false, false_and, and_self, not_true_eq_false, not_false_eq_true, ite_self], ?_⟩
      by_cases f1 : lo.toInt < 0
      · rw [if_pos f1]
      · rw [if_neg f1]
        by_cases f2 : tr.toInt < lo.toInt
        · rw [if_pos f2]
        · rw [if_neg f2, if_pos (by omega)]
  · refine Or.inl ⟨nI 1, by simp only [hA, tx_then, tx_case, ap1, ap2, ap3, ap4, p_mUnsealed, p_mShut, p_gNeedUnsealed, p_gNeedSealed, z10, z00, z20, z30, y10, y00, y20, y30, e21, e31, e32, e23, if_true, if_false, and_true, true_and, and_false, false_and, and_self, not_true_eq_false, not_false_eq_true, ite_self], ?_⟩
    by_cases f1 : lo.toInt < 0
    · rw [if_pos f1]
    · rw [if_neg f1]
      by_cases f2 : tr.toInt < lo.toInt
      · rw [if_pos f2]
      · rw [if_neg f2]
        by_cases f3 : hi.toInt < tr.toInt
        · rw [if_pos f3]
        · rw [if_neg f3, if_neg (by omega)]
theorem tr_6 {x : Int32} (hA : 0 ≤ x.toInt ∧ x.toInt < 7) (h : x.toInt < 6) : 0 ≤ (nI x.toNatClampNeg).toInt ∧ (nI x.toNatClampNeg).toInt < 6 := by
  have h1 := n_clamp hA.1
  rw [nI_toInt (by omega)]; omega
theorem tr_7 {x : Int32} (hA : 0 ≤ x.toInt ∧ x.toInt < 7) (h : ¬ x.toInt < 6) : ¬ (0 ≤ (nI x.toNatClampNeg).toInt ∧ (nI x.toNatClampNeg).toInt < 6) := by
  have h1 := n_clamp hA.1
  rw [nI_toInt (by omega)]; omega
theorem tr_n {x : Int32} (hA : 0 ≤ x.toInt ∧ x.toInt < 7) (h : x.toInt < 6) : ¬ x.toNatClampNeg = 6 := by have h1 := n_clamp hA.1; omega
theorem tr_m {x : Int32} (hA : 0 ≤ x.toInt ∧ x.toInt < 7) (h : ¬ x.toInt < 6) : x.toNatClampNeg = 6 := by have h1 := n_clamp hA.1; omega
set_option maxHeartbeats 8000000 in
theorem t_truth1 (s : Int32) (a b c d e f : Nat → Int32) (x y v : Int32) (hxy : x = y) : (∃ k : Int32, p_hTruth s a b c d e f x y v = (k, c, f) ∧ p_mTruth s a b c d e f x y v = (k, c, f)) ∨ ((0 ≤ x.toInt ∧ x.toInt < 7) ∧ (0 ≤ y.toInt ∧ y.toInt < 7) ∧ (x.toInt < 6) ∧ ((a x.toNatClampNeg).toInt ≤ v.toInt ∧ v.toInt ≤ (b x.toNatClampNeg).toInt) ∧ (s = 0) ∧ p_hTruth s a b c d e f x y v = (nI 0, upd c x.toNatClampNeg v, f) ∧ p_mTruth s a b c d e f x y v = (nI 0, upd c x.toNatClampNeg v, f)) := by
  subst hxy
  unfold p_hTruth p_gTruth p_mTruth
  simp only [w_idx (show (nI 7).toInt = 7 by decide), w_idx (show (nI 6).toInt = 6 by decide), w_wit, w_mwi, w_end]
  by_cases hA : 0 ≤ x.toInt ∧ x.toInt < 7
  · skip
    by_cases hB : 0 ≤ x.toInt ∧ x.toInt < 7
    · skip
      by_cases hC : x.toInt < 6
      · skip
        have hC2 := tr_6 hA hC
        have hC3 := tr_n hA hC
        by_cases hD : (a x.toNatClampNeg).toInt ≤ v.toInt ∧ v.toInt ≤ (b x.toNatClampNeg).toInt
        · skip
          by_cases hS : s = 0
          · skip
            exact Or.inr ⟨hA, hB, hC, hD, hS, by simp only [hA, hB, hC, hC2, hC3, hD, hS, tx_then, tx_case, ap1, ap2, ap3, ap4, p_mUnsealed, p_mShut, p_gNeedUnsealed, p_gNeedSealed, z10, z00, z20, z30, y10, y00, y20, y30, e21, e31, e32, e23, if_true, if_false, and_true, true_and, and_false, false_and, and_self, not_true_eq_false, not_false_eq_true, ite_self], by simp only [hA, hB, hC, hC2, hC3, hD, hS, tx_then, tx_case, ap1, ap2, ap3, ap4, p_mUnsealed, p_mShut, p_gNeedUnsealed, p_gNeedSealed, z10, z00, z20, z30, y10, y00, y20, y30, e21, e31, e32, e23, if_true, if_false, and_true, true_and, and_false, false_and, and_self, not_true_eq_false, not_false_eq_true, ite_self]⟩
          · exact Or.inl ⟨nI 3, by simp only [hA, hB, hC, hC2, hC3, hD, hS, tx_then, tx_case, ap1, ap2, ap3, ap4, p_mUnsealed, p_mShut, p_gNeedUnsealed, p_gNeedSealed, z10, z00, z20, z30, y10, y00, y20, y30, e21, e31, e32, e23, if_true, if_false, and_true, true_and, and_false, false_and, and_self, not_true_eq_false, not_false_eq_true, ite_self], by simp only [hA, hB, hC, hC2, hC3, hD, hS, tx_then, tx_case, ap1, ap2, ap3, ap4, p_mUnsealed, p_mShut, p_gNeedUnsealed, p_gNeedSealed, z10, z00, z20, z30, y10, y00, y20, y30, e21, e31, e32, e23, if_true, if_false, and_true, true_and, and_false, false_and, and_self, not_true_eq_false, not_false_eq_true, ite_self]⟩
        · exact Or.inl ⟨nI 2, by simp only [hA, hB, hC, hC2, hC3, hD, tx_then, tx_case, ap1, ap2, ap3, ap4, p_mUnsealed, p_mShut, p_gNeedUnsealed, p_gNeedSealed, z10, z00, z20, z30, y10, y00, y20, y30, e21, e31, e32, e23, if_true, if_false, and_true, true_and, and_false, false_and, and_self, not_true_eq_false, not_false_eq_true, ite_self], by simp only [hA, hB, hC, hC2, hC3, hD, tx_then, tx_case, ap1, ap2, ap3, ap4, p_mUnsealed, p_mShut, p_gNeedUnsealed, p_gNeedSealed, z10, z00, z20, z30, y10, y00, y20, y30, e21, e31, e32, e23, if_true, if_false, and_true, true_and, and_false, false_and, and_self, not_true_eq_false, not_false_eq_true, ite_self]⟩
      · have hC2 := tr_7 hA hC
        have hC3 := tr_m hA hC
        have hC4 := (show ¬ (0 ≤ (nI 6).toInt ∧ (nI 6).toInt < 6) by decide)
        exact Or.inl ⟨nI 1, by simp only [hA, hB, hC, hC2, hC3, hC4, tx_then, tx_case, ap1, ap2, ap3, ap4, p_mUnsealed, p_mShut, p_gNeedUnsealed, p_gNeedSealed, z10, z00, z20, z30, y10, y00, y20, y30, e21, e31, e32, e23, if_true, if_false, and_true, true_and, and_false, false_and, and_self, not_true_eq_false, not_false_eq_true, ite_self], by simp only [hA, hB, hC, hC2, hC3, hC4, tx_then, tx_case, ap1, ap2, ap3, ap4, p_mUnsealed, p_mShut, p_gNeedUnsealed, p_gNeedSealed, z10, z00, z20, z30, y10, y00, y20, y30, e21, e31, e32, e23, if_true, if_false, and_true, true_and, and_false, false_and, and_self, not_true_eq_false, not_false_eq_true, ite_self]⟩
    · exact absurd hA hB
  · exact Or.inl ⟨nI 1, by simp only [hA, tx_then, tx_case, ap1, ap2, ap3, ap4, p_mUnsealed, p_mShut, p_gNeedUnsealed, p_gNeedSealed, z10, z00, z20, z30, y10, y00, y20, y30, e21, e31, e32, e23, if_true, if_false, and_true, true_and, and_false, false_and, and_self, not_true_eq_false, not_false_eq_true, ite_self], by simp only [hA, tx_then, tx_case, ap1, ap2, ap3, ap4, p_mUnsealed, p_mShut, p_gNeedUnsealed, p_gNeedSealed, z10, z00, z20, z30, y10, y00, y20, y30, e21, e31, e32, e23, if_true, if_false, and_true, true_and, and_false, false_and, and_self, not_true_eq_false, not_false_eq_true, ite_self]⟩
set_option maxHeartbeats 8000000 in
theorem t_truth2 (s : Int32) (a b c d e f : Nat → Int32) (x y v : Int32) (hxy : ¬ x = y) : (∃ k : Int32, p_hTruth s a b c d e f x y v = (k, c, f) ∧ p_mTruth s a b c d e f x y v = (k, c, f)) ∨ ((0 ≤ x.toInt ∧ x.toInt < 7) ∧ (0 ≤ y.toInt ∧ y.toInt < 7) ∧ ((d (x.toNatClampNeg * 7 + y.toNatClampNeg)).toInt ≤ v.toInt ∧ v.toInt ≤ (e (x.toNatClampNeg * 7 + y.toNatClampNeg)).toInt) ∧ (s = 0) ∧ p_hTruth s a b c d e f x y v = (nI 0, c, upd (upd f (x.toNatClampNeg * 7 + y.toNatClampNeg) v) (y.toNatClampNeg * 7 + x.toNatClampNeg) v) ∧ p_mTruth s a b c d e f x y v = (nI 0, c, upd (upd f (x.toNatClampNeg * 7 + y.toNatClampNeg) v) (y.toNatClampNeg * 7 + x.toNatClampNeg) v)) := by
  unfold p_hTruth p_gTruth p_setTrueEdge p_mTruth
  simp only [w_idx (show (nI 7).toInt = 7 by decide), w_wit, w_mwi, w_end, Nat.mul_comm 7]
  by_cases hA : 0 ≤ x.toInt ∧ x.toInt < 7
  · skip
    by_cases hB : 0 ≤ y.toInt ∧ y.toInt < 7
    · skip
      have hE2 := ed_ne hA hB hxy
      by_cases hD : (d (x.toNatClampNeg * 7 + y.toNatClampNeg)).toInt ≤ v.toInt ∧ v.toInt ≤ (e (x.toNatClampNeg * 7 + y.toNatClampNeg)).toInt
      · skip
        by_cases hS : s = 0
        · skip
          exact Or.inr ⟨hA, hB, hD, hS, by simp only [hA, hB, hE2, hD, hS, tx_then, tx_case, ap1, ap2, ap3, ap4, p_mUnsealed, p_mShut, p_gNeedUnsealed, p_gNeedSealed, z10, z00, z20, z30, y10, y00, y20, y30, e21, e31, e32, e23, if_true, if_false, and_true, true_and, and_false, false_and, and_self, not_true_eq_false, not_false_eq_true, ite_self], by simp only [hA, hB, hE2, hD, hS, tx_then, tx_case, ap1, ap2, ap3, ap4, p_mUnsealed, p_mShut, p_gNeedUnsealed, p_gNeedSealed, z10, z00, z20, z30, y10, y00, y20, y30, e21, e31, e32, e23, if_true, if_false, and_true, true_and, and_false, false_and, and_self, not_true_eq_false, not_false_eq_true, ite_self]⟩
        · exact Or.inl ⟨nI 3, by simp only [hA, hB, hE2, hD, hS, tx_then, tx_case, ap1, ap2, ap3, ap4, p_mUnsealed, p_mShut, p_gNeedUnsealed, p_gNeedSealed, z10, z00, z20, z30, y10, y00, y20, y30, e21, e31, e32, e23, if_true, if_false, and_true, true_and, and_false, false_and, and_self, not_true_eq_false, not_false_eq_true, ite_self], by simp only [hA, hB, hE2, hD, hS, tx_then, tx_case, ap1, ap2, ap3, ap4, p_mUnsealed, p_mShut, p_gNeedUnsealed, p_gNeedSealed, z10, z00, z20, z30, y10, y00, y20, y30, e21, e31, e32, e23, if_true, if_false, and_true, true_and, and_false, false_and, and_self, not_true_eq_false, not_false_eq_true, ite_self]⟩
      · exact Or.inl ⟨nI 2, by simp only [hA, hB, hE2, hD, tx_then, tx_case, ap1, ap2, ap3, ap4, p_mUnsealed, p_mShut, p_gNeedUnsealed, p_gNeedSealed, z10, z00, z20, z30, y10, y00, y20, y30, e21, e31, e32, e23, if_true, if_false, and_true, true_and, and_false, false_and, and_self, not_true_eq_false, not_false_eq_true, ite_self], by simp only [hA, hB, hE2, hD, tx_then, tx_case, ap1, ap2, ap3, ap4, p_mUnsealed, p_mShut, p_gNeedUnsealed, p_gNeedSealed, z10, z00, z20, z30, y10, y00, y20, y30, e21, e31, e32, e23, if_true, if_false, and_true, true_and, and_false, false_and, and_self, not_true_eq_false, not_false_eq_true, ite_self]⟩
    · exact Or.inl ⟨nI 1, by simp only [hA, hB, tx_then, tx_case, ap1, ap2, ap3, ap4, p_mUnsealed, p_mShut, p_gNeedUnsealed, p_gNeedSealed, z10, z00, z20, z30, y10, y00, y20, y30, e21, e31, e32, e23, if_true, if_false, and_true, true_and, and_false, false_and, and_self, not_true_eq_false, not_false_eq_true, ite_self], by simp only [hA, hB, tx_then, tx_case, ap1, ap2, ap3, ap4, p_mUnsealed, p_mShut, p_gNeedUnsealed, p_gNeedSealed, z10, z00, z20, z30, y10, y00, y20, y30, e21, e31, e32, e23, if_true, if_false, and_true, true_and, and_false, false_and, and_self, not_true_eq_false, not_false_eq_true, ite_self]⟩
  · exact Or.inl ⟨nI 1, by simp only [hA, tx_then, tx_case, ap1, ap2, ap3, ap4, p_mUnsealed, p_mShut, p_gNeedUnsealed, p_gNeedSealed, z10, z00, z20, z30, y10, y00, y20, y30, e21, e31, e32, e23, if_true, if_false, and_true, true_and, and_false, false_and, and_self, not_true_eq_false, not_false_eq_true, ite_self], by simp only [hA, tx_then, tx_case, ap1, ap2, ap3, ap4, p_mUnsealed, p_mShut, p_gNeedUnsealed, p_gNeedSealed, z10, z00, z20, z30, y10, y00, y20, y30, e21, e31, e32, e23, if_true, if_false, and_true, true_and, and_false, false_and, and_self, not_true_eq_false, not_false_eq_true, ite_self]⟩
end ST
