/-! numbers: where no sum leaves the range, ints and longs are whole numbers -/
section NU
theorem n_add {a b : Int32} (h1 : -2147483648 ≤ a.toInt + b.toInt) (h2 : a.toInt + b.toInt < 2147483648) : (a + b).toInt = a.toInt + b.toInt := by
  rw [Int32.toInt_add, Int.bmod_eq_of_le (by omega) (by omega)]
theorem n_sub {a b : Int32} (h1 : -2147483648 ≤ a.toInt - b.toInt) (h2 : a.toInt - b.toInt < 2147483648) : (a - b).toInt = a.toInt - b.toInt := by
  rw [Int32.toInt_sub, Int.bmod_eq_of_le (by omega) (by omega)]
theorem n_mul {a b : Int32} (h1 : -2147483648 ≤ a.toInt * b.toInt) (h2 : a.toInt * b.toInt < 2147483648) : (a * b).toInt = a.toInt * b.toInt := by
  rw [Int32.toInt_mul, Int.bmod_eq_of_le (by omega) (by omega)]
theorem n_neg {a : Int32} (h1 : -2147483647 ≤ a.toInt) : (-a).toInt = -a.toInt := by
  have h2 := Int32.toInt_lt a
  rw [Int32.toInt_neg, Int.bmod_eq_of_le (by omega) (by omega)]
theorem l_add {a b : Int64} (h1 : -9223372036854775808 ≤ a.toInt + b.toInt) (h2 : a.toInt + b.toInt < 9223372036854775808) : (a + b).toInt = a.toInt + b.toInt := by
  rw [Int64.toInt_add, Int.bmod_eq_of_le (by omega) (by omega)]
theorem l_sub {a b : Int64} (h1 : -9223372036854775808 ≤ a.toInt - b.toInt) (h2 : a.toInt - b.toInt < 9223372036854775808) : (a - b).toInt = a.toInt - b.toInt := by
  rw [Int64.toInt_sub, Int.bmod_eq_of_le (by omega) (by omega)]
theorem l_mul {a b : Int64} (h1 : -9223372036854775808 ≤ a.toInt * b.toInt) (h2 : a.toInt * b.toInt < 9223372036854775808) : (a * b).toInt = a.toInt * b.toInt := by
  rw [Int64.toInt_mul, Int.bmod_eq_of_le (by omega) (by omega)]
theorem n_ran (a : Int32) : -2147483648 ≤ a.toInt ∧ a.toInt ≤ 2147483647 := by
  have h1 := Int32.toInt_lt a
  have h2 := Int32.le_toInt a
  omega
theorem n_le {a b : Int32} : a ≤ b ↔ a.toInt ≤ b.toInt := Int32.le_iff_toInt_le
theorem n_lt {a b : Int32} : a < b ↔ a.toInt < b.toInt := Int32.lt_iff_toInt_lt
theorem n_eq {a b : Int32} : a = b ↔ a.toInt = b.toInt := Int32.toInt_inj.symm
theorem l_le {a b : Int64} : a ≤ b ↔ a.toInt ≤ b.toInt := Int64.le_iff_toInt_le
theorem l_lt {a b : Int64} : a < b ↔ a.toInt < b.toInt := Int64.lt_iff_toInt_lt
theorem l_eq {a b : Int64} : a = b ↔ a.toInt = b.toInt := Int64.toInt_inj.symm
theorem n_0 : (0 : Int32).toInt = 0 := by decide
theorem n_1 : (1 : Int32).toInt = 1 := by decide
theorem n_m1 : (-1 : Int32).toInt = -1 := by decide
theorem l_0 : (0 : Int64).toInt = 0 := by decide
theorem l_1 : (1 : Int64).toInt = 1 := by decide
/-- a product of a number of 0 .. E and one of -B .. B -/
theorem nu_mb {e d E B : Int} (h0 : 0 ≤ e) (hE : e ≤ E) (h1 : -B ≤ d) (h2 : d ≤ B) : -(E * B) ≤ e * d ∧ e * d ≤ E * B := by
  have hB : 0 ≤ B := by omega
  have a1 : e * d ≤ e * B := Int.mul_le_mul_of_nonneg_left h2 h0
  have a2 : e * B ≤ E * B := Int.mul_le_mul_of_nonneg_right hE hB
  have a3 : e * (-B) ≤ e * d := Int.mul_le_mul_of_nonneg_left h1 h0
  have a4 : e * (-B) = -(e * B) := Int.mul_neg ..
  omega
theorem nu_mp {e d E B : Int} (h0 : 0 ≤ e) (hE : e ≤ E) (h1 : 0 ≤ d) (h2 : d ≤ B) : 0 ≤ e * d ∧ e * d ≤ E * B := ⟨Int.mul_nonneg h0 h1, (nu_mb h0 hE (by omega) h2).2⟩
theorem nu_div {a b q : Int} (hb : 0 < b) (h1 : q * b ≤ a) (h2 : a < (q + 1) * b) : a / b = q := by
  have h3 := Int.le_ediv_of_mul_le hb h1
  have h4 := Int.ediv_lt_of_lt_mul hb h2
  omega
/-- rounding to 0 of a number below 0 -/
theorem nu_tdiv {x y : Int} (hy : 0 < y) (hx : x < 0) : ∃ r : Int, 0 ≤ r ∧ r < y ∧ x.tdiv y * y = x + r := by
  refine ⟨(-x) % y, Int.emod_nonneg _ (by omega), Int.emod_lt_of_pos _ hy, ?_⟩
  have h1 := Int.mul_ediv_add_emod (-x) y
  have h2 : x.tdiv y = -((-x) / y) := by
    have h3 : (-x).tdiv y = (-x) / y := Int.tdiv_eq_ediv_of_nonneg (by omega)
    rw [← h3, Int.neg_tdiv, Int.neg_neg]
  rw [h2, Int.neg_mul, Int.mul_comm]
  omega
theorem n_xor {x y : Int32} (hy : 0 ≤ y.toInt) : (0 ≤ x ^^^ y) ↔ 0 ≤ x.toInt := by
  rw [n_le, n_0]
  show 0 ≤ (x.toBitVec ^^^ y.toBitVec).toInt ↔ 0 ≤ x.toBitVec.toInt
  have h := BitVec.msb_xor (x := x.toBitVec) (y := y.toBitVec)
  rw [BitVec.msb_eq_toInt, BitVec.msb_eq_toInt, BitVec.msb_eq_toInt] at h
  have hy' : ¬ y.toBitVec.toInt < 0 := by
    have : y.toBitVec.toInt = y.toInt := rfl
    omega
  rw [decide_eq_false hy', Bool.xor_false, decide_eq_decide] at h
  omega
theorem n_ne1 {y : Int32} (hy : 0 < y.toInt) : y ≠ -1 := by
  intro h
  rw [h, n_m1] at hy
  omega
theorem n_fdiv {x y : Int32} (hy : 0 < y.toInt) : (p_floorDiv x y).toInt = x.toInt / y.toInt := by
  have hd : (x / y).toInt = x.toInt.tdiv y.toInt := Int32.toInt_div_of_ne_right x y (n_ne1 hy)
  have rx := n_ran x
  unfold p_floorDiv
  by_cases hx : 0 ≤ x.toInt
  · rw [if_pos ((n_xor (by omega)).mpr hx), hd, Int.tdiv_eq_ediv_of_nonneg hx]
  · rw [if_neg (fun h => hx ((n_xor (by omega)).mp h))]
    obtain ⟨r, r0, r1, hr⟩ := nu_tdiv hy (show x.toInt < 0 by omega)
    have hq0 : x.toInt.tdiv y.toInt ≤ 0 := by
      rcases mt_lt_or_ge 0 (x.toInt.tdiv y.toInt) with h | h
      · have := Int.mul_le_mul_of_nonneg_right (show (1 : Int) ≤ x.toInt.tdiv y.toInt by omega) (show 0 ≤ y.toInt by omega)
        omega
      · exact h
    have hm : (x / y * y).toInt = x.toInt + r := by
      have e : (x / y).toInt * y.toInt = x.toInt + r := by rw [hd]; exact hr
      have h9 : x.toInt + r ≤ 0 := by
        have := Int.mul_nonpos_of_nonpos_of_nonneg hq0 (show 0 ≤ y.toInt by omega)
        omega
      rw [n_mul (by omega) (by omega), e]
    by_cases hz : x / y * y = x
    · rw [if_pos hz]
      rw [hz] at hm
      rw [hd]
      exact (nu_div hy (by omega) (by rw [Int.add_mul]; omega)).symm
    · rw [if_neg hz]
      have hr0 : ¬ r = 0 := fun h => hz (n_eq.mpr (by omega))
      have h1 : (nI 1).toInt = 1 := by decide
      have hqr := n_ran (x / y)
      have hql : -2147483648 ≤ x.toInt.tdiv y.toInt - 1 := by
        have h5 : x.toInt.tdiv y.toInt * y.toInt ≤ x.toInt.tdiv y.toInt * 1 := Int.mul_le_mul_of_nonpos_left hq0 (show (1 : Int) ≤ y.toInt by omega)
        omega
      rw [n_sub (by rw [hd, h1]; omega) (by rw [hd, h1]; omega), hd, h1]
      refine (nu_div hy ?_ ?_).symm
      · rw [Int.sub_mul]; omega
      · rw [show x.toInt.tdiv y.toInt - 1 + 1 = x.toInt.tdiv y.toInt by omega]; omega
theorem n_wg {lc hc : Nat → Int32} {n : Nat} {heat : Int32} (hl : 0 < (lc n).toInt) (hh : 0 < (hc n).toInt) (hb : -2147483647 ≤ heat.toInt) : (p_worstGrowth lc hc n heat).toInt = mt_g heat.toInt (lc n).toInt (hc n).toInt := by
  have key : ∀ y : Int32, 0 < y.toInt → (-(p_floorDiv (-heat) y)).toInt = mt_up heat.toInt y.toInt := by
    intro y hy
    have rh := n_ran heat
    have e1 : (p_floorDiv (-heat) y).toInt = (-heat.toInt) / y.toInt := by rw [n_fdiv hy, n_neg hb]
    have e2 : -2147483647 ≤ (-heat.toInt) / y.toInt := by
      refine Int.le_ediv_of_mul_le hy ?_
      have := Int.mul_le_mul_of_nonpos_left (show (-2147483647 : Int) ≤ 0 by omega) (show (1 : Int) ≤ y.toInt by omega)
      omega
    rw [n_neg (by rw [e1]; exact e2), e1]
    rfl
  unfold p_worstGrowth
  by_cases h0 : heat ≤ 0
  · rw [if_pos h0, key _ hh, mt_g_neg (by have := n_le.mp h0; rw [n_0] at this; omega)]
  · rw [if_neg h0, key _ hl, mt_g_pos (by have h2 : ¬ heat.toInt ≤ (0 : Int32).toInt := fun h => h0 (n_le.mpr h); rw [n_0] at h2; omega)]
/-- longs: rounding down and up -/
theorem l_div {x y : Int64} (hy : 0 < y.toInt) : (x / y).toInt = x.toInt.tdiv y.toInt := Int64.toInt_div_of_ne_right x y (by
  intro h
  rw [h, show (-1 : Int64).toInt = -1 by decide] at hy
  omega)
theorem l_down {x y : Int64} (hy : 0 < y.toInt) (h1 : -4611686018427387904 ≤ x.toInt) (h2 : x.toInt < 4611686018427387904) : (p_mDown x y).toInt = x.toInt / y.toInt := by
  have hd := l_div (x := x) hy
  unfold p_mDown
  by_cases hx : 0 ≤ x.toInt
  · have e : x.toInt.tdiv y.toInt = x.toInt / y.toInt := Int.tdiv_eq_ediv_of_nonneg hx
    have a1 := Int.mul_ediv_add_emod x.toInt y.toInt
    have a2 := Int.emod_nonneg x.toInt (show y.toInt ≠ 0 by omega)
    have a4 : 0 ≤ x.toInt / y.toInt * y.toInt := Int.mul_nonneg (Int.ediv_nonneg hx (by omega)) (by omega)
    have a5 : y.toInt * (x.toInt / y.toInt) = x.toInt / y.toInt * y.toInt := Int.mul_comm ..
    have hm : (x / y * y).toInt = x.toInt / y.toInt * y.toInt := by rw [l_mul (by rw [hd, e]; omega) (by rw [hd, e]; omega), hd, e]
    have hs : (x - x / y * y).toInt = x.toInt - x.toInt / y.toInt * y.toInt := by rw [l_sub (by rw [hm]; omega) (by rw [hm]; omega), hm]
    rw [if_pos ((lg_cmp_ge _ _).mpr (l_le.mpr (by rw [l_0, hs]; omega))), hd, e]
  · obtain ⟨r, r0, r1, hr⟩ := nu_tdiv hy (show x.toInt < 0 by omega)
    have hq0 : x.toInt.tdiv y.toInt * y.toInt ≤ 0 := by
      have hq : x.toInt.tdiv y.toInt ≤ 0 := by
        rcases mt_lt_or_ge 0 (x.toInt.tdiv y.toInt) with h | h
        · have := Int.mul_le_mul_of_nonneg_right (show (1 : Int) ≤ x.toInt.tdiv y.toInt by omega) (show 0 ≤ y.toInt by omega)
          omega
        · exact h
      exact Int.mul_nonpos_of_nonpos_of_nonneg hq (by omega)
    have hm : (x / y * y).toInt = x.toInt + r := by rw [l_mul (by rw [hd]; omega) (by rw [hd]; omega), hd, hr]
    have hs : (x - x / y * y).toInt = -r := by rw [l_sub (by rw [hm]; omega) (by rw [hm]; omega), hm]; omega
    by_cases h0 : r = 0
    · rw [if_pos ((lg_cmp_ge _ _).mpr (l_le.mpr (by rw [l_0, hs]; omega))), hd]
      exact (nu_div hy (by omega) (by rw [Int.add_mul]; omega)).symm
    · rw [if_neg (fun h => by have := l_le.mp ((lg_cmp_ge _ _).mp h); rw [l_0, hs] at this; omega)]
      have hql : x.toInt ≤ x.toInt.tdiv y.toInt := by
        rcases mt_lt_or_ge (x.toInt.tdiv y.toInt) 0 with h | h
        · have h5 : x.toInt.tdiv y.toInt * y.toInt ≤ x.toInt.tdiv y.toInt * 1 := Int.mul_le_mul_of_nonpos_left (by omega) (show (1 : Int) ≤ y.toInt by omega)
          omega
        · omega
      have hqu : x.toInt.tdiv y.toInt ≤ 0 := by
        rcases mt_lt_or_ge 0 (x.toInt.tdiv y.toInt) with h | h
        · have := Int.mul_le_mul_of_nonneg_right (show (1 : Int) ≤ x.toInt.tdiv y.toInt by omega) (show 0 ≤ y.toInt by omega)
          omega
        · exact h
      rw [l_sub (by rw [hd, l_1]; omega) (by rw [hd, l_1]; omega), hd, l_1]
      refine (nu_div hy ?_ ?_).symm
      · rw [Int.sub_mul]; omega
      · rw [show x.toInt.tdiv y.toInt - 1 + 1 = x.toInt.tdiv y.toInt by omega]; omega
theorem mt_up_uniq {a b q : Int} (hb : 0 < b) (h1 : a ≤ q * b) (h2 : (q - 1) * b < a) : mt_up a b = q := by
  have e1 := mt_up_le hb h1
  have e2 := mt_le_up hb h2
  omega
theorem l_up {x y : Int64} (hy : 0 < y.toInt) (h1 : -4611686018427387904 ≤ x.toInt) (h2 : x.toInt < 4611686018427387904) : (p_mUp x y).toInt = mt_up x.toInt y.toInt := by
  have hd := l_div (x := x) hy
  unfold p_mUp
  by_cases hx : 0 ≤ x.toInt
  · have e : x.toInt.tdiv y.toInt = x.toInt / y.toInt := Int.tdiv_eq_ediv_of_nonneg hx
    have a1 := Int.mul_ediv_add_emod x.toInt y.toInt
    have a2 := Int.emod_nonneg x.toInt (show y.toInt ≠ 0 by omega)
    have a3 := Int.emod_lt_of_pos x.toInt hy
    have a4 : 0 ≤ x.toInt / y.toInt * y.toInt := Int.mul_nonneg (Int.ediv_nonneg hx (by omega)) (by omega)
    have a5 : y.toInt * (x.toInt / y.toInt) = x.toInt / y.toInt * y.toInt := Int.mul_comm ..
    have a6 : x.toInt / y.toInt ≤ x.toInt := by
      have := Int.mul_le_mul_of_nonneg_left (show (1 : Int) ≤ y.toInt by omega) (Int.ediv_nonneg hx (show 0 ≤ y.toInt by omega))
      omega
    have a7 := Int.ediv_nonneg hx (show 0 ≤ y.toInt by omega)
    have hm : (x / y * y).toInt = x.toInt / y.toInt * y.toInt := by rw [l_mul (by rw [hd, e]; omega) (by rw [hd, e]; omega), hd, e]
    have hs : (x - x / y * y).toInt = x.toInt - x.toInt / y.toInt * y.toInt := by rw [l_sub (by rw [hm]; omega) (by rw [hm]; omega), hm]
    by_cases h0 : x.toInt - x.toInt / y.toInt * y.toInt ≤ 0
    · rw [if_pos ((lg_cmp_le _ _).mpr (l_le.mpr (by rw [l_0, hs]; omega))), hd, e]
      exact (mt_up_uniq hy (by omega) (by rw [Int.sub_mul]; omega)).symm
    · rw [if_neg (fun h => by have := l_le.mp ((lg_cmp_le _ _).mp h); rw [l_0, hs] at this; omega)]
      rw [l_add (by rw [hd, e, l_1]; omega) (by rw [hd, e, l_1]; omega), hd, e, l_1]
      exact (mt_up_uniq hy (by rw [Int.add_mul]; omega) (by rw [show x.toInt / y.toInt + 1 - 1 = x.toInt / y.toInt by omega]; omega)).symm
  · obtain ⟨r, r0, r1, hr⟩ := nu_tdiv hy (show x.toInt < 0 by omega)
    have hq : x.toInt.tdiv y.toInt ≤ 0 := by
      rcases mt_lt_or_ge 0 (x.toInt.tdiv y.toInt) with h | h
      · have := Int.mul_le_mul_of_nonneg_right (show (1 : Int) ≤ x.toInt.tdiv y.toInt by omega) (show 0 ≤ y.toInt by omega)
        omega
      · exact h
    have hq0 : x.toInt.tdiv y.toInt * y.toInt ≤ 0 := Int.mul_nonpos_of_nonpos_of_nonneg hq (by omega)
    have hm : (x / y * y).toInt = x.toInt + r := by rw [l_mul (by rw [hd]; omega) (by rw [hd]; omega), hd, hr]
    have hs : (x - x / y * y).toInt = -r := by rw [l_sub (by rw [hm]; omega) (by rw [hm]; omega), hm]; omega
    rw [if_pos ((lg_cmp_le _ _).mpr (l_le.mpr (by rw [l_0, hs]; omega))), hd]
    exact (mt_up_uniq hy (by omega) (by rw [Int.sub_mul]; omega)).symm
/-- the leak -/
def mt_leak (b s st k t : Int) : Int := b + s * t + (if t ≤ k then 0 else st * (t - k))
theorem mt_leak_mono {b s st k t t' : Int} (hs : 0 ≤ s) (hst : 0 ≤ st) (h : t ≤ t') : mt_leak b s st k t ≤ mt_leak b s st k t' := by
  unfold mt_leak
  have h1 : s * t ≤ s * t' := Int.mul_le_mul_of_nonneg_left h hs
  by_cases h2 : t' ≤ k
  · rw [if_pos (show t ≤ k by omega), if_pos h2]; omega
  · rw [if_neg h2]
    by_cases h3 : t ≤ k
    · rw [if_pos h3]
      have := Int.mul_nonneg hst (show 0 ≤ t' - k by omega)
      omega
    · rw [if_neg h3]
      have := Int.mul_le_mul_of_nonneg_left (show t - k ≤ t' - k by omega) hst
      omega
/-- the leak's numbers as they may be set -/
def nu_leak (b s st k : Int32) : Prop := 0 ≤ b.toInt ∧ b.toInt ≤ 100000 ∧ 0 ≤ s.toInt ∧ s.toInt ≤ 100 ∧ 0 ≤ st.toInt ∧ st.toInt ≤ 100 ∧ 0 ≤ k.toInt ∧ k.toInt ≤ 50000
theorem nu_leak_ran {b s st k : Int32} (L : nu_leak b s st k) {t : Int} (h0 : 0 ≤ t) (h1 : t ≤ 50000) : 0 ≤ mt_leak b.toInt s.toInt st.toInt k.toInt t ∧ mt_leak b.toInt s.toInt st.toInt k.toInt t ≤ 10100000 := by
  obtain ⟨b0, b1, s0, s1, t0, t1, k0, k1⟩ := L
  unfold mt_leak
  have e1 := nu_mp s0 s1 h0 h1
  by_cases h2 : t ≤ k.toInt
  · rw [if_pos h2]; omega
  · rw [if_neg h2]
    have e2 := nu_mp (e := st.toInt) (d := t - k.toInt) t0 t1 (by omega) (show t - k.toInt ≤ 50000 by omega)
    omega
theorem n_leak {b s st k t : Int32} (L : nu_leak b s st k) (h0 : 0 ≤ t.toInt) (h1 : t.toInt ≤ 50000) : (p_leakAt b s st k t).toInt = mt_leak b.toInt s.toInt st.toInt k.toInt t.toInt := by
  obtain ⟨b0, b1, s0, s1, t0, t1, k0, k1⟩ := L
  have e1 := nu_mp s0 s1 h0 h1
  have m1 : (s * t).toInt = s.toInt * t.toInt := n_mul (by omega) (by omega)
  have m2 : (b + s * t).toInt = b.toInt + s.toInt * t.toInt := by rw [n_add (by rw [m1]; omega) (by rw [m1]; omega), m1]
  unfold p_leakAt mt_leak
  by_cases h2 : t ≤ k
  · have h3 := n_le.mp h2
    have m3 : (st * nI 0).toInt = 0 := by
      rw [n_mul (by rw [show (nI 0).toInt = 0 by decide]; omega) (by rw [show (nI 0).toInt = 0 by decide]; omega), show (nI 0).toInt = 0 by decide]
      omega
    rw [if_pos h2, if_pos h3, n_add (by rw [m2, m3]; omega) (by rw [m2, m3]; omega), m2, m3]
  · have h3 : ¬ t.toInt ≤ k.toInt := fun h => h2 (n_le.mpr h)
    have m4 : (t - k).toInt = t.toInt - k.toInt := n_sub (by omega) (by omega)
    have e2 := nu_mp (e := st.toInt) (d := t.toInt - k.toInt) t0 t1 (by omega) (show t.toInt - k.toInt ≤ 50000 by omega)
    have m3 : (st * (t - k)).toInt = st.toInt * (t.toInt - k.toInt) := by rw [n_mul (by rw [m4]; omega) (by rw [m4]; omega), m4]
    rw [if_neg h2, if_neg h3, n_add (by rw [m2, m3]; omega) (by rw [m2, m3]; omega), m2, m3]
theorem l_leak {b s st k : Int32} {t : Int64} (L : nu_leak b s st k) (h0 : 0 ≤ t.toInt) (h1 : t.toInt ≤ 50000) : (p_mLeakAt b s st k t).toInt = mt_leak b.toInt s.toInt st.toInt k.toInt t.toInt := by
  obtain ⟨b0, b1, s0, s1, t0, t1, k0, k1⟩ := L
  have e1 := nu_mp s0 s1 h0 h1
  have c1 := Int32.toInt_toInt64 b
  have c2 := Int32.toInt_toInt64 s
  have c3 := Int32.toInt_toInt64 st
  have c4 := Int32.toInt_toInt64 k
  have m1 : (s.toInt64 * t).toInt = s.toInt * t.toInt := by rw [l_mul (by rw [c2]; omega) (by rw [c2]; omega), c2]
  have m2 : (b.toInt64 + s.toInt64 * t).toInt = b.toInt + s.toInt * t.toInt := by rw [l_add (by rw [c1, m1]; omega) (by rw [c1, m1]; omega), c1, m1]
  unfold p_mLeakAt mt_leak
  by_cases h2 : lg_cmp t k.toInt64 ≤ 0
  · have h3 := l_le.mp ((lg_cmp_le _ _).mp h2)
    rw [c4] at h3
    rw [if_pos h2, if_pos h3, l_add (by rw [m2, l_0]; omega) (by rw [m2, l_0]; omega), m2, l_0]
  · have h3 : ¬ t.toInt ≤ k.toInt := fun h => h2 ((lg_cmp_le _ _).mpr (l_le.mpr (by rw [c4]; exact h)))
    have m4 : (t - k.toInt64).toInt = t.toInt - k.toInt := by rw [l_sub (by rw [c4]; omega) (by rw [c4]; omega), c4]
    have e2 := nu_mp (e := st.toInt) (d := t.toInt - k.toInt) t0 t1 (by omega) (show t.toInt - k.toInt ≤ 50000 by omega)
    have m3 : (st.toInt64 * (t - k.toInt64)).toInt = st.toInt * (t.toInt - k.toInt) := by rw [l_mul (by rw [m4, c3]; omega) (by rw [m4, c3]; omega), m4, c3]
    rw [if_neg h2, if_neg h3, l_add (by rw [m2, m3]; omega) (by rw [m2, m3]; omega), m2, m3]
end NU
