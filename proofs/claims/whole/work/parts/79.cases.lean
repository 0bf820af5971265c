section CA
variable {x : Nat → Nat → Int32} {f : Nat → Int32} {y : Nat → Nat → Int32} {yl : Nat → Nat → Int64} {g : Nat → Int32} {o : Nat → Int64}
set_option maxHeartbeats 2000000 in
theorem L_capacity (R : Rel x f y yl g) (p_0 : Int32) (p_1 : Int32) (p_2 : Int32) {k9 : Int32} {u : (Nat → Int32) × (Nat → Int32) × (Nat → Int32)} (hu : (k9, u) = p_hCapacity (f 0) (x 2) (x 3) (x 4) p_0 p_1 p_2) {v : Int32 × (Nat → Int32) × (Nat → Int32) × (Nat → Int32)} (hv : v = p_mCapacity (g 1) (y 1) (y 2) (y 3) p_0 p_1 p_2) : v.1 = k9 ∧ Rel (va_up (va_up (va_up x 2 u.1) 3 u.2.1) 4 u.2.2) f (va_up (va_up (va_up y 1 v.2.1) 2 v.2.2.1) 3 v.2.2.2) yl (va_up g 0 v.1) := by
  obtain ⟨⟨⟨c1, c2, c3⟩, ⟨d1, d2, d3⟩, cl, cp, ⟨ca1, ca2⟩, ⟨k1, k2, k3, k4⟩, cs, c0⟩, ⟨rE, rC, rT, rP, rL, rM, rA, rS⟩, A, U, S⟩ := R
  have w1 : (nI 1).toInt = 1 := by decide
  have w0 : (nI 0).toInt = 0 := by decide
  have w10000 : (nI 10000).toInt = 10000 := by decide
  have w500 : (nI 500).toInt = 500 := by decide
  have w50000 : (nI 50000).toInt = 50000 := by decide
  have w100000 : (nI 100000).toInt = 100000 := by decide
  have w1000000 : (nI 1000000).toInt = 1000000 := by decide
  have w100 : (nI 100).toInt = 100 := by decide
  have w3 : (nI 3).toInt = 3 := by decide
  have w200 : (nI 200).toInt = 200 := by decide
  have wm200 : (-200 : Int32).toInt = -200 := by decide
  rw [← c1, ← c2, ← c3, ← cs] at hv
  rcases t_capacity (f 0) (x 2) (x 3) (x 4) p_0 p_1 p_2 with ⟨k, e1, e2⟩ | ⟨hA, hB, hC, hS, e1, e2⟩
  · rw [e1] at hu
    rw [e2] at hv
    cases hu
    subst hv
    exact ⟨rfl, ⟨⟨rfl, rfl, rfl⟩, ⟨d1, d2, d3⟩, cl, cp, ⟨ca1, ca2⟩, ⟨k1, k2, k3, k4⟩, cs, c0⟩, ⟨rE, rC, rT, rP, rL, rM, rA, rS⟩, A, U, S⟩
  · rw [e1] at hu
    rw [e2] at hv
    cases hu
    subst hv
    exact ⟨rfl, ⟨⟨rfl, rfl, rfl⟩, ⟨d1, d2, d3⟩, cl, cp, ⟨ca1, ca2⟩, ⟨k1, k2, k3, k4⟩, cs, c0⟩, ⟨rE, cf_C_up rC (by omega) (by omega) (by omega), cf_T_cap rT (by omega), rP, rL, rM, rA, rS⟩, A, U, fun h => absurd (hS.symm.trans h) (by decide)⟩
set_option maxHeartbeats 2000000 in
theorem L_edge (R : Rel x f y yl g) (p_0 : Int32) (p_1 : Int32) (p_2 : Int32) (p_3 : Int32) {k9 : Int32} {u : (Nat → Int32) × (Nat → Int32) × (Nat → Int32)} (hu : (k9, u) = p_hEdge (f 0) (x 5) (x 6) (x 7) p_0 p_1 p_2 p_3) {v : Int32 × (Nat → Int32) × (Nat → Int32) × (Nat → Int32)} (hv : v = p_mEdge (g 1) (y 4) (y 5) (y 6) p_0 p_1 p_2 p_3) : v.1 = k9 ∧ Rel (va_up (va_up (va_up x 5 u.1) 6 u.2.1) 7 u.2.2) f (va_up (va_up (va_up y 4 v.2.1) 5 v.2.2.1) 6 v.2.2.2) yl (va_up g 0 v.1) := by
  obtain ⟨⟨⟨c1, c2, c3⟩, ⟨d1, d2, d3⟩, cl, cp, ⟨ca1, ca2⟩, ⟨k1, k2, k3, k4⟩, cs, c0⟩, ⟨rE, rC, rT, rP, rL, rM, rA, rS⟩, A, U, S⟩ := R
  have w1 : (nI 1).toInt = 1 := by decide
  have w0 : (nI 0).toInt = 0 := by decide
  have w10000 : (nI 10000).toInt = 10000 := by decide
  have w500 : (nI 500).toInt = 500 := by decide
  have w50000 : (nI 50000).toInt = 50000 := by decide
  have w100000 : (nI 100000).toInt = 100000 := by decide
  have w1000000 : (nI 1000000).toInt = 1000000 := by decide
  have w100 : (nI 100).toInt = 100 := by decide
  have w3 : (nI 3).toInt = 3 := by decide
  have w200 : (nI 200).toInt = 200 := by decide
  have wm200 : (-200 : Int32).toInt = -200 := by decide
  rw [← d1, ← d2, ← d3, ← cs] at hv
  rcases t_edge (f 0) (x 5) (x 6) (x 7) p_0 p_1 p_2 p_3 with ⟨k, e1, e2⟩ | ⟨hA, hB, hE, hR, hQ, hS, e1, e2⟩
  · rw [e1] at hu
    rw [e2] at hv
    cases hu
    subst hv
    exact ⟨rfl, ⟨⟨c1, c2, c3⟩, ⟨rfl, rfl, rfl⟩, cl, cp, ⟨ca1, ca2⟩, ⟨k1, k2, k3, k4⟩, cs, c0⟩, ⟨rE, rC, rT, rP, rL, rM, rA, rS⟩, A, U, S⟩
  · rw [e1] at hu
    rw [e2] at hv
    cases hu
    subst hv
    exact ⟨rfl, ⟨⟨c1, c2, c3⟩, ⟨rfl, rfl, rfl⟩, cl, cp, ⟨ca1, ca2⟩, ⟨k1, k2, k3, k4⟩, cs, c0⟩, ⟨cf_E_up rE (by omega) (by omega) (by omega), rC, cf_T_edge rT (by omega), rP, rL, rM, rA, cf_Sy_up rS (by have := n_clamp hA.1; omega) (by have := n_clamp hB.1; omega)⟩, A, U, fun h => absurd (hS.symm.trans h) (by decide)⟩
set_option maxHeartbeats 2000000 in
theorem L_limit (R : Rel x f y yl g) (p_0 : Int32) (p_1 : Int32) {k9 : Int32} {u : (Nat → Int32)} (hu : (k9, u) = p_hLimit (f 0) (x 8) p_0 p_1) {v : Int32 × (Nat → Int32)} (hv : v = p_mLimit (g 1) (y 7) p_0 p_1) : v.1 = k9 ∧ Rel (va_up x 8 u) f (va_up y 7 v.2) yl (va_up g 0 v.1) := by
  obtain ⟨⟨⟨c1, c2, c3⟩, ⟨d1, d2, d3⟩, cl, cp, ⟨ca1, ca2⟩, ⟨k1, k2, k3, k4⟩, cs, c0⟩, ⟨rE, rC, rT, rP, rL, rM, rA, rS⟩, A, U, S⟩ := R
  have w1 : (nI 1).toInt = 1 := by decide
  have w0 : (nI 0).toInt = 0 := by decide
  have w10000 : (nI 10000).toInt = 10000 := by decide
  have w500 : (nI 500).toInt = 500 := by decide
  have w50000 : (nI 50000).toInt = 50000 := by decide
  have w100000 : (nI 100000).toInt = 100000 := by decide
  have w1000000 : (nI 1000000).toInt = 1000000 := by decide
  have w100 : (nI 100).toInt = 100 := by decide
  have w3 : (nI 3).toInt = 3 := by decide
  have w200 : (nI 200).toInt = 200 := by decide
  have wm200 : (-200 : Int32).toInt = -200 := by decide
  rw [← cl, ← cs] at hv
  rcases t_limit (f 0) (x 8) p_0 p_1 with ⟨k, e1, e2⟩ | ⟨hA, hB, hS, e1, e2⟩
  · rw [e1] at hu
    rw [e2] at hv
    cases hu
    subst hv
    exact ⟨rfl, ⟨⟨c1, c2, c3⟩, ⟨d1, d2, d3⟩, rfl, cp, ⟨ca1, ca2⟩, ⟨k1, k2, k3, k4⟩, cs, c0⟩, ⟨rE, rC, rT, rP, rL, rM, rA, rS⟩, A, U, S⟩
  · rw [e1] at hu
    rw [e2] at hv
    cases hu
    subst hv
    exact ⟨rfl, ⟨⟨c1, c2, c3⟩, ⟨d1, d2, d3⟩, rfl, cp, ⟨ca1, ca2⟩, ⟨k1, k2, k3, k4⟩, cs, c0⟩, ⟨rE, rC, rT, rP, rL, fun n hn => up_2 (p := fun z => 0 ≤ z.toInt ∧ z.toInt ≤ 50000) (by omega) (rM n hn), rA, rS⟩, A, U, fun h => absurd (hS.symm.trans h) (by decide)⟩
set_option maxHeartbeats 2000000 in
theorem L_air (R : Rel x f y yl g) (p_0 : Int32) (p_1 : Int32) (p_2 : Int32) {k9 : Int32} {u : Int32 × Int32} (hu : (k9, u) = p_hAir (f 0) (f 1) (f 2) p_0 p_1 p_2) {v : Int32 × Int32 × Int32 × Int32} (hv : v = p_mAir (g 1) (g 2) (g 3) (g 4) p_0 p_1 p_2) : v.1 = k9 ∧ Rel x (va_up (va_up f 1 u.1) 2 u.2) y yl (va_up (va_up (va_up (va_up g 0 v.1) 2 v.2.1) 3 v.2.2.1) 4 v.2.2.2) := by
  obtain ⟨⟨⟨c1, c2, c3⟩, ⟨d1, d2, d3⟩, cl, cp, ⟨ca1, ca2⟩, ⟨k1, k2, k3, k4⟩, cs, c0⟩, ⟨rE, rC, rT, rP, rL, rM, rA, rS⟩, A, U, S⟩ := R
  have w1 : (nI 1).toInt = 1 := by decide
  have w0 : (nI 0).toInt = 0 := by decide
  have w10000 : (nI 10000).toInt = 10000 := by decide
  have w500 : (nI 500).toInt = 500 := by decide
  have w50000 : (nI 50000).toInt = 50000 := by decide
  have w100000 : (nI 100000).toInt = 100000 := by decide
  have w1000000 : (nI 1000000).toInt = 1000000 := by decide
  have w100 : (nI 100).toInt = 100 := by decide
  have w3 : (nI 3).toInt = 3 := by decide
  have w200 : (nI 200).toInt = 200 := by decide
  have wm200 : (-200 : Int32).toInt = -200 := by decide
  rw [← ca1, ← ca2, ← cs] at hv
  rcases t_air (f 0) (f 1) (f 2) (g 2) p_0 p_1 p_2 with ⟨k, e1, e2⟩ | ⟨hA, hB, hS, e1, e2⟩
  · rw [e1] at hu
    rw [e2] at hv
    cases hu
    subst hv
    exact ⟨rfl, ⟨⟨c1, c2, c3⟩, ⟨d1, d2, d3⟩, cl, cp, ⟨rfl, rfl⟩, ⟨k1, k2, k3, k4⟩, cs, c0⟩, ⟨rE, rC, rT, rP, rL, rM, rA, rS⟩, A, U, S⟩
  · rw [e1] at hu
    rw [e2] at hv
    cases hu
    subst hv
    exact ⟨rfl, ⟨⟨c1, c2, c3⟩, ⟨d1, d2, d3⟩, cl, cp, ⟨rfl, rfl⟩, ⟨k1, k2, k3, k4⟩, cs, c0⟩, ⟨rE, rC, rT, rP, rL, rM, (by show 0 ≤ p_1.toInt ∧ p_1.toInt ≤ p_2.toInt ∧ p_2.toInt ≤ 50000; omega), rS⟩, A, U, fun h => absurd (hS.symm.trans h) (by decide)⟩
set_option maxHeartbeats 2000000 in
theorem L_power (R : Rel x f y yl g) (p_0 : Int32) (p_1 : Int32) {k9 : Int32} {u : (Nat → Int32)} (hu : (k9, u) = p_hPower (f 0) (x 9) p_0 p_1) {v : Int32 × (Nat → Int32)} (hv : v = p_mPower (g 1) (y 8) p_0 p_1) : v.1 = k9 ∧ Rel (va_up x 9 u) f (va_up y 8 v.2) yl (va_up g 0 v.1) := by
  obtain ⟨⟨⟨c1, c2, c3⟩, ⟨d1, d2, d3⟩, cl, cp, ⟨ca1, ca2⟩, ⟨k1, k2, k3, k4⟩, cs, c0⟩, ⟨rE, rC, rT, rP, rL, rM, rA, rS⟩, A, U, S⟩ := R
  have w1 : (nI 1).toInt = 1 := by decide
  have w0 : (nI 0).toInt = 0 := by decide
  have w10000 : (nI 10000).toInt = 10000 := by decide
  have w500 : (nI 500).toInt = 500 := by decide
  have w50000 : (nI 50000).toInt = 50000 := by decide
  have w100000 : (nI 100000).toInt = 100000 := by decide
  have w1000000 : (nI 1000000).toInt = 1000000 := by decide
  have w100 : (nI 100).toInt = 100 := by decide
  have w3 : (nI 3).toInt = 3 := by decide
  have w200 : (nI 200).toInt = 200 := by decide
  have wm200 : (-200 : Int32).toInt = -200 := by decide
  rw [← cp, ← cs] at hv
  obtain ⟨rP0, rP1, rP2, rP3⟩ := rP
  have m0 := rP0 0 (by omega)
  have m1 := rP0 1 (by omega)
  have m2 := rP0 2 (by omega)
  have m3 := rP0 3 (by omega)
  by_cases hA : 0 ≤ p_0.toInt ∧ p_0.toInt < 4
  · rcases st_4 hA with rfl | rfl | rfl | rfl
    · rcases t_power0 (f 0) (x 9) p_1 (by omega) with ⟨k, e1, e2⟩ | ⟨hB, hS, e1, e2⟩
      · rw [e1] at hu
        rw [e2] at hv
        cases hu
        subst hv
        exact ⟨rfl, ⟨⟨c1, c2, c3⟩, ⟨d1, d2, d3⟩, cl, rfl, ⟨ca1, ca2⟩, ⟨k1, k2, k3, k4⟩, cs, c0⟩, ⟨rE, rC, rT, ⟨rP0, rP1, rP2, rP3⟩, rL, rM, rA, rS⟩, A, U, S⟩
      · rw [e1] at hu
        rw [e2] at hv
        cases hu
        subst hv
        exact ⟨rfl, ⟨⟨c1, c2, c3⟩, ⟨d1, d2, d3⟩, cl, rfl, ⟨ca1, ca2⟩, ⟨k1, k2, k3, k4⟩, cs, c0⟩, ⟨rE, rC, rT, ⟨fun q hq => up_2 (p := fun z => 0 ≤ z.toInt ∧ z.toInt ≤ 1000000) (by omega) (rP0 q hq), (by show (p_1).toInt ≤ (x 9 1).toInt; omega), (by show (x 9 1).toInt ≤ (x 9 2).toInt; omega), (by show (x 9 2).toInt ≤ (x 9 3).toInt; omega)⟩, rL, rM, rA, rS⟩, A, U, fun h => absurd (hS.symm.trans h) (by decide)⟩
    · rcases t_power1 (f 0) (x 9) p_1 (by omega) with ⟨k, e1, e2⟩ | ⟨hB, hS, e1, e2⟩
      · rw [e1] at hu
        rw [e2] at hv
        cases hu
        subst hv
        exact ⟨rfl, ⟨⟨c1, c2, c3⟩, ⟨d1, d2, d3⟩, cl, rfl, ⟨ca1, ca2⟩, ⟨k1, k2, k3, k4⟩, cs, c0⟩, ⟨rE, rC, rT, ⟨rP0, rP1, rP2, rP3⟩, rL, rM, rA, rS⟩, A, U, S⟩
      · rw [e1] at hu
        rw [e2] at hv
        cases hu
        subst hv
        exact ⟨rfl, ⟨⟨c1, c2, c3⟩, ⟨d1, d2, d3⟩, cl, rfl, ⟨ca1, ca2⟩, ⟨k1, k2, k3, k4⟩, cs, c0⟩, ⟨rE, rC, rT, ⟨fun q hq => up_2 (p := fun z => 0 ≤ z.toInt ∧ z.toInt ≤ 1000000) (by omega) (rP0 q hq), (by show (x 9 0).toInt ≤ (p_1).toInt; omega), (by show (p_1).toInt ≤ (x 9 2).toInt; omega), (by show (x 9 2).toInt ≤ (x 9 3).toInt; omega)⟩, rL, rM, rA, rS⟩, A, U, fun h => absurd (hS.symm.trans h) (by decide)⟩
    · rcases t_power2 (f 0) (x 9) p_1 (by omega) with ⟨k, e1, e2⟩ | ⟨hB, hS, e1, e2⟩
      · rw [e1] at hu
        rw [e2] at hv
        cases hu
        subst hv
        exact ⟨rfl, ⟨⟨c1, c2, c3⟩, ⟨d1, d2, d3⟩, cl, rfl, ⟨ca1, ca2⟩, ⟨k1, k2, k3, k4⟩, cs, c0⟩, ⟨rE, rC, rT, ⟨rP0, rP1, rP2, rP3⟩, rL, rM, rA, rS⟩, A, U, S⟩
      · rw [e1] at hu
        rw [e2] at hv
        cases hu
        subst hv
        exact ⟨rfl, ⟨⟨c1, c2, c3⟩, ⟨d1, d2, d3⟩, cl, rfl, ⟨ca1, ca2⟩, ⟨k1, k2, k3, k4⟩, cs, c0⟩, ⟨rE, rC, rT, ⟨fun q hq => up_2 (p := fun z => 0 ≤ z.toInt ∧ z.toInt ≤ 1000000) (by omega) (rP0 q hq), (by show (x 9 0).toInt ≤ (x 9 1).toInt; omega), (by show (x 9 1).toInt ≤ (p_1).toInt; omega), (by show (p_1).toInt ≤ (x 9 3).toInt; omega)⟩, rL, rM, rA, rS⟩, A, U, fun h => absurd (hS.symm.trans h) (by decide)⟩
    · rcases t_power3 (f 0) (x 9) p_1 (by omega) with ⟨k, e1, e2⟩ | ⟨hB, hS, e1, e2⟩
      · rw [e1] at hu
        rw [e2] at hv
        cases hu
        subst hv
        exact ⟨rfl, ⟨⟨c1, c2, c3⟩, ⟨d1, d2, d3⟩, cl, rfl, ⟨ca1, ca2⟩, ⟨k1, k2, k3, k4⟩, cs, c0⟩, ⟨rE, rC, rT, ⟨rP0, rP1, rP2, rP3⟩, rL, rM, rA, rS⟩, A, U, S⟩
      · rw [e1] at hu
        rw [e2] at hv
        cases hu
        subst hv
        exact ⟨rfl, ⟨⟨c1, c2, c3⟩, ⟨d1, d2, d3⟩, cl, rfl, ⟨ca1, ca2⟩, ⟨k1, k2, k3, k4⟩, cs, c0⟩, ⟨rE, rC, rT, ⟨fun q hq => up_2 (p := fun z => 0 ≤ z.toInt ∧ z.toInt ≤ 1000000) (by omega) (rP0 q hq), (by show (x 9 0).toInt ≤ (x 9 1).toInt; omega), (by show (x 9 1).toInt ≤ (x 9 2).toInt; omega), (by show (x 9 2).toInt ≤ (p_1).toInt; omega)⟩, rL, rM, rA, rS⟩, A, U, fun h => absurd (hS.symm.trans h) (by decide)⟩
  · obtain ⟨e1, e2⟩ := t_powerX (f 0) (x 9) p_0 p_1 hA
    rw [e1] at hu
    rw [e2] at hv
    cases hu
    subst hv
    exact ⟨rfl, ⟨⟨c1, c2, c3⟩, ⟨d1, d2, d3⟩, cl, rfl, ⟨ca1, ca2⟩, ⟨k1, k2, k3, k4⟩, cs, c0⟩, ⟨rE, rC, rT, ⟨rP0, rP1, rP2, rP3⟩, rL, rM, rA, rS⟩, A, U, S⟩
set_option maxHeartbeats 2000000 in
theorem L_leak (R : Rel x f y yl g) (p_0 : Int32) (p_1 : Int32) (p_2 : Int32) (p_3 : Int32) {k9 : Int32} {u : Int32 × Int32 × Int32 × Int32} (hu : (k9, u) = p_hLeak (f 0) (f 3) (f 4) (f 5) (f 6) p_0 p_1 p_2 p_3) {v : Int32 × Int32 × Int32 × Int32 × Int32} (hv : v = p_mLeak (g 1) (g 5) (g 6) (g 7) (g 8) p_0 p_1 p_2 p_3) : v.1 = k9 ∧ Rel x (va_up (va_up (va_up (va_up f 3 u.1) 4 u.2.1) 5 u.2.2.1) 6 u.2.2.2) y yl (va_up (va_up (va_up (va_up (va_up g 0 v.1) 5 v.2.1) 6 v.2.2.1) 7 v.2.2.2.1) 8 v.2.2.2.2) := by
  obtain ⟨⟨⟨c1, c2, c3⟩, ⟨d1, d2, d3⟩, cl, cp, ⟨ca1, ca2⟩, ⟨k1, k2, k3, k4⟩, cs, c0⟩, ⟨rE, rC, rT, rP, rL, rM, rA, rS⟩, A, U, S⟩ := R
  have w1 : (nI 1).toInt = 1 := by decide
  have w0 : (nI 0).toInt = 0 := by decide
  have w10000 : (nI 10000).toInt = 10000 := by decide
  have w500 : (nI 500).toInt = 500 := by decide
  have w50000 : (nI 50000).toInt = 50000 := by decide
  have w100000 : (nI 100000).toInt = 100000 := by decide
  have w1000000 : (nI 1000000).toInt = 1000000 := by decide
  have w100 : (nI 100).toInt = 100 := by decide
  have w3 : (nI 3).toInt = 3 := by decide
  have w200 : (nI 200).toInt = 200 := by decide
  have wm200 : (-200 : Int32).toInt = -200 := by decide
  rw [← k1, ← k2, ← k3, ← k4, ← cs] at hv
  rcases t_leak (f 0) (f 3) (f 4) (f 5) (f 6) p_0 p_1 p_2 p_3 with ⟨k, e1, e2⟩ | ⟨hA, hB, hC, hD, hS, e1, e2⟩
  · rw [e1] at hu
    rw [e2] at hv
    cases hu
    subst hv
    exact ⟨rfl, ⟨⟨c1, c2, c3⟩, ⟨d1, d2, d3⟩, cl, cp, ⟨ca1, ca2⟩, ⟨rfl, rfl, rfl, rfl⟩, cs, c0⟩, ⟨rE, rC, rT, rP, rL, rM, rA, rS⟩, A, U, S⟩
  · rw [e1] at hu
    rw [e2] at hv
    cases hu
    subst hv
    exact ⟨rfl, ⟨⟨c1, c2, c3⟩, ⟨d1, d2, d3⟩, cl, cp, ⟨ca1, ca2⟩, ⟨rfl, rfl, rfl, rfl⟩, cs, c0⟩, ⟨rE, rC, rT, rP, (by show nu_leak p_0 p_1 p_2 p_3; unfold nu_leak; omega), rM, rA, rS⟩, A, U, fun h => absurd (hS.symm.trans h) (by decide)⟩
set_option maxHeartbeats 2000000 in
theorem L_truth (R : Rel x f y yl g) (p_0 : Int32) (p_1 : Int32) (p_2 : Int32) {k9 : Int32} {u : (Nat → Int32) × (Nat → Int32)} (hu : (k9, u) = p_hTruth (f 0) (x 2) (x 3) (x 4) (x 5) (x 6) (x 7) p_0 p_1 p_2) {v : Int32 × (Nat → Int32) × (Nat → Int32)} (hv : v = p_mTruth (g 1) (y 1) (y 2) (y 3) (y 4) (y 5) (y 6) p_0 p_1 p_2) : v.1 = k9 ∧ Rel (va_up (va_up x 4 u.1) 7 u.2) f (va_up (va_up y 3 v.2.1) 6 v.2.2) yl (va_up g 0 v.1) := by
  obtain ⟨⟨⟨c1, c2, c3⟩, ⟨d1, d2, d3⟩, cl, cp, ⟨ca1, ca2⟩, ⟨k1, k2, k3, k4⟩, cs, c0⟩, ⟨rE, rC, rT, rP, rL, rM, rA, rS⟩, A, U, S⟩ := R
  have w1 : (nI 1).toInt = 1 := by decide
  have w0 : (nI 0).toInt = 0 := by decide
  have w10000 : (nI 10000).toInt = 10000 := by decide
  have w500 : (nI 500).toInt = 500 := by decide
  have w50000 : (nI 50000).toInt = 50000 := by decide
  have w100000 : (nI 100000).toInt = 100000 := by decide
  have w1000000 : (nI 1000000).toInt = 1000000 := by decide
  have w100 : (nI 100).toInt = 100 := by decide
  have w3 : (nI 3).toInt = 3 := by decide
  have w200 : (nI 200).toInt = 200 := by decide
  have wm200 : (-200 : Int32).toInt = -200 := by decide
  rw [← c1, ← c2, ← c3, ← d1, ← d2, ← d3, ← cs] at hv
  by_cases hxy : p_0 = p_1
  · rcases t_truth1 (f 0) (x 2) (x 3) (x 4) (x 5) (x 6) (x 7) p_0 p_1 p_2 hxy with ⟨k, e1, e2⟩ | ⟨hA, hB, hC, hD, hS, e1, e2⟩
    · rw [e1] at hu
      rw [e2] at hv
      cases hu
      subst hv
      exact ⟨rfl, ⟨⟨c1, c2, rfl⟩, ⟨d1, d2, rfl⟩, cl, cp, ⟨ca1, ca2⟩, ⟨k1, k2, k3, k4⟩, cs, c0⟩, ⟨rE, rC, rT, rP, rL, rM, rA, rS⟩, A, U, S⟩
    · rw [e1] at hu
      rw [e2] at hv
      cases hu
      subst hv
      exact ⟨rfl, ⟨⟨c1, c2, rfl⟩, ⟨d1, d2, rfl⟩, cl, cp, ⟨ca1, ca2⟩, ⟨k1, k2, k3, k4⟩, cs, c0⟩, ⟨rE, rC, cf_T_tru rT hD.1 hD.2, rP, rL, rM, rA, rS⟩, A, U, fun h => absurd (hS.symm.trans h) (by decide)⟩
  · rcases t_truth2 (f 0) (x 2) (x 3) (x 4) (x 5) (x 6) (x 7) p_0 p_1 p_2 hxy with ⟨k, e1, e2⟩ | ⟨hA, hB, hD, hS, e1, e2⟩
    · rw [e1] at hu
      rw [e2] at hv
      cases hu
      subst hv
      exact ⟨rfl, ⟨⟨c1, c2, rfl⟩, ⟨d1, d2, rfl⟩, cl, cp, ⟨ca1, ca2⟩, ⟨k1, k2, k3, k4⟩, cs, c0⟩, ⟨rE, rC, rT, rP, rL, rM, rA, rS⟩, A, U, S⟩
    · rw [e1] at hu
      rw [e2] at hv
      cases hu
      subst hv
      have q1 := n_clamp hA.1
      have q2 := n_clamp hB.1
      rw [Nat.mul_comm] at hD
      have hT9 := cf_T_true rT rS (show p_0.toNatClampNeg < 7 by omega) (show p_1.toNatClampNeg < 7 by omega) hD.1 hD.2
      rw [Nat.mul_comm 7, Nat.mul_comm 7] at hT9
      exact ⟨rfl, ⟨⟨c1, c2, rfl⟩, ⟨d1, d2, rfl⟩, cl, cp, ⟨ca1, ca2⟩, ⟨k1, k2, k3, k4⟩, cs, c0⟩, ⟨rE, rC, hT9, rP, rL, rM, rA, rS⟩, A, U, fun h => absurd (hS.symm.trans h) (by decide)⟩
set_option maxHeartbeats 2000000 in
theorem L_seal (R : Rel x f y yl g) {k9 : Int32} {u : (Nat → Int32) × (Nat → Int32) × (Nat → Int32) × (Nat → Int32) × (Nat → Int32) × (Nat → Int32) × (Nat → Int32) × (Nat → Int32) × (Nat → Int32) × (Nat → Int32) × Int32 × (Nat → Int32) × (Nat → Int32) × Int32 × (Nat → Int64)} (hu : (k9, u) = p_hSeal (f 0) (x 12) (x 13) (f 1) (f 2) (f 3) (f 4) (f 5) (f 6) (x 2) (x 3) (x 5) (x 6) (x 8) (x 9) (x 10) (x 15) (x 16) (x 17) (x 18) (x 19) (f 7) (x 21) (x 22) (x 23) (x 24) (x 25) o) {v : Int32 × Int32 × (Nat → Int64) × (Nat → Int64) × (Nat → Int64) × (Nat → Int64) × (Nat → Int64) × (Nat → Int32)} {b9 : Int32} (hv : (b9, v) = p_mSeal (g 1) (g 3) (g 4) (g 5) (g 6) (g 7) (g 8) (y 1) (y 2) (y 4) (y 5) (y 7) (y 8) (yl 10) (yl 12) (yl 13) (y 17) (yl 9) (yl 11)) : v.1 = k9 ∧ (k9 = 0 → u.2.2.2.2.2.2.2.2.2.2.2.2.2.2 0 = (if b9 = 0 then 0 else 1)) ∧ Rel (va_up (va_up (va_up (va_up (va_up (va_up (va_up (va_up (va_up (va_up (va_up (va_up x 15 u.1) 16 u.2.1) 17 u.2.2.1) 18 u.2.2.2.1) 19 u.2.2.2.2.1) 21 u.2.2.2.2.2.1) 22 u.2.2.2.2.2.2.1) 23 u.2.2.2.2.2.2.2.1) 24 u.2.2.2.2.2.2.2.2.1) 25 u.2.2.2.2.2.2.2.2.2.1) 10 u.2.2.2.2.2.2.2.2.2.2.2.1) 12 u.2.2.2.2.2.2.2.2.2.2.2.2.1) (va_up (va_up f 7 u.2.2.2.2.2.2.2.2.2.2.1) 0 u.2.2.2.2.2.2.2.2.2.2.2.2.2.1) (va_up y 17 v.2.2.2.2.2.2.2) (va_up (va_up (va_up (va_up (va_up yl 10 v.2.2.1) 9 v.2.2.2.1) 11 v.2.2.2.2.1) 12 v.2.2.2.2.2.1) 13 v.2.2.2.2.2.2.1) (va_up (va_up g 0 v.1) 1 v.2.1) := by
  obtain ⟨⟨⟨c1, c2, c3⟩, ⟨d1, d2, d3⟩, cl, cp, ⟨ca1, ca2⟩, ⟨k1, k2, k3, k4⟩, cs, c0⟩, ⟨rE, rC, rT, rP, rL, rM, rA, rS⟩, A, U, S⟩ := R
  have w1 : (nI 1).toInt = 1 := by decide
  have w0 : (nI 0).toInt = 0 := by decide
  have w10000 : (nI 10000).toInt = 10000 := by decide
  have w500 : (nI 500).toInt = 500 := by decide
  have w50000 : (nI 50000).toInt = 50000 := by decide
  have w100000 : (nI 100000).toInt = 100000 := by decide
  have w1000000 : (nI 1000000).toInt = 1000000 := by decide
  have w100 : (nI 100).toInt = 100 := by decide
  have w3 : (nI 3).toInt = 3 := by decide
  have w200 : (nI 200).toInt = 200 := by decide
  have wm200 : (-200 : Int32).toInt = -200 := by decide
  rw [← cs, ← ca1, ← ca2, ← k1, ← k2, ← k3, ← k4, ← c1, ← c2, ← d1, ← d2, ← cl, ← cp] at hv
  unfold p_hSeal p_gSeal at hu
  unfold p_mSeal at hv
  rcases c0 with h0 | h1
  · rw [if_pos h0, ← s_joined, ← s_steady] at hv
    have en : p_gNeedUnsealed (f 0) = Sum.inr () := by unfold p_gNeedUnsealed; rw [if_pos h0]
    rw [en] at hu
    by_cases hj : p_isJoined (x 6) = 0
    · rw [if_pos hj] at hu hv
      simp only [tx_then, tx_case, p_gNeedSealed, p_gNeedUnsealed, ap1, ap2, ap3, ap4, ap5, ap6, ap7, ap8, ap15, if_true, if_false, z10, z00, z20, z30, e21, e31, e32, e23, ite_self] at hu
      cases hu
      cases hv
      exact ⟨rfl, fun _ => (show vp_updL o 0 0 0 = (if nI 0 = 0 then 0 else 1) by rw [if_pos (show nI 0 = 0 by decide)]; exact vl_us), ⟨⟨c1, c2, c3⟩, ⟨d1, d2, d3⟩, cl, cp, ⟨ca1, ca2⟩, ⟨k1, k2, k3, k4⟩, rfl, Or.inl h0⟩, ⟨rE, rC, rT, rP, rL, rM, rA, rS⟩, A, U, S⟩
    · rw [if_neg hj] at hu hv
      by_cases ht : p_isSteady (f 4) (f 5) (x 6) (x 2) = 0
      · rw [if_pos ht] at hu hv
        simp only [tx_then, tx_case, p_gNeedSealed, p_gNeedUnsealed, ap1, ap2, ap3, ap4, ap5, ap6, ap7, ap8, ap15, if_true, if_false, z10, z00, z20, z30, e21, e31, e32, e23, ite_self] at hu
        cases hu
        cases hv
        exact ⟨rfl, fun _ => (show vp_updL o 0 0 0 = (if nI 0 = 0 then 0 else 1) by rw [if_pos (show nI 0 = 0 by decide)]; exact vl_us), ⟨⟨c1, c2, c3⟩, ⟨d1, d2, d3⟩, cl, cp, ⟨ca1, ca2⟩, ⟨k1, k2, k3, k4⟩, rfl, Or.inl h0⟩, ⟨rE, rC, rT, rP, rL, rM, rA, rS⟩, A, U, S⟩
      · rw [if_neg ht] at hu hv
        have sK : cf_K (x 2) (x 3) (x 5) (x 6) (x 8) (x 9) (f 3) (f 4) (f 5) (f 6) := ⟨rE, rC, rP.1, rL, rM, fun n hn => c_steady rE ⟨rL.2.2.1, rL.2.2.2.1⟩ ⟨rL.2.2.2.2.1, rL.2.2.2.2.2.1⟩ 6 0 rfl ht n (Nat.zero_le _) hn⟩
        obtain ⟨A1, A2, A3, A4, A5, A6⟩ := A
        obtain ⟨U1, U2, U3⟩ := U h0
        have e2 := Int32.toInt_toInt64 (f 2)
        have e1 := Int32.toInt_toInt64 (f 1)
        have B : nu_b (fun _ => (f 2).toInt) := fun o ho => by show 0 ≤ (f 2).toInt ∧ (f 2).toInt ≤ 50000; omega
        obtain ⟨i1, i2, i3⟩ := s_safe (air := f 2) (idle := x 13) (stp := lp (nI 0) 4 0 (x 21)) (trd := y 17) (bnd := lp (f 2) 7 0 (x 16)) (bou := lpL (f 2).toInt64 6 0 (yl 10)) (b := fun _ => (f 2).toInt) sK (fun j hj => by rw [lp_0 hj]; exact vin_0) (fun j hj => by rw [lp_0 hj, A2 j hj]) A1 B (fun o ho => by rw [lp_0 ho]) (fun o ho => by rw [lpL_0 ho]; exact e2) rfl (x 12) (x 10) (yl 12) (yl 13)
        have hbz := bz_isSafe (x 12) (x 13) (f 3) (f 4) (f 5) (f 6) (x 2) (x 3) (x 5) (x 6) (x 8) (x 9) (x 10) (lp (f 2) 7 0 (x 16)) (lp (nI 0) 4 0 (x 21))
        rw [c_nbeg, c_cbeg] at hu
        rw [m_41, m_41z] at hv
        simp only [tx_then, ap5, ap6, ap3] at hu
        generalize p_isSafe (x 12) (x 13) (f 3) (f 4) (f 5) (f 6) (x 2) (x 3) (x 5) (x 6) (x 8) (x 9) (x 10) (lp (f 2) 7 0 (x 16)) (lp (nI 0) 4 0 (x 21)) = X at hu i1 i2 hbz
        generalize p_mIsSafe (f 2) (f 3) (f 4) (f 5) (f 6) (x 2) (x 3) (x 5) (x 6) (x 8) (x 9) (lpL (f 2).toInt64 6 0 (yl 10)) (yl 12) (yl 13) (y 17) = Y at hv i1 i3
        simp only [tx_case, ap15] at hu
        have hwr : ∀ j : Nat, j < 4 → -1 ≤ (lp (-1) 4 0 (x 22) j).toInt ∧ (lp (-1) 4 0 (x 22) j).toInt ≤ 3 := fun j hj => by rw [lp_0 hj, n_m1]; omega
        have hsr : ∀ j : Nat, j < 4 → vp_in (lp (nI 0) 4 0 (x 21) j) 4 := fun j hj => by rw [lp_0 hj]; exact vin_0
        by_cases hv0 : X.1 = 0
        · have hy0 : Y.1 = 0 := i1.symm.trans hv0
          rw [if_pos hv0] at hu
          rw [if_pos hy0] at hv
          cases hu
          cases hv
          refine ⟨rfl, fun _ => (show vp_updL o 0 0 0 = (if nI 0 = 0 then 0 else 1) by rw [if_pos (show nI 0 = 0 by decide)]; exact vl_us), ⟨⟨c1, c2, c3⟩, ⟨d1, d2, d3⟩, cl, cp, ⟨ca1, ca2⟩, ⟨k1, k2, k3, k4⟩, ?_, Or.inl hv0⟩, ⟨rE, rC, rT, rP, rL, rM, rA, rS⟩, ⟨A1, i3, hsr, A4, hwr, A6⟩, fun _ => ⟨U1, U2, U3⟩, fun h => absurd (hv0.symm.trans h) (by decide)⟩
          show X.1 = f 0
          rw [hv0, h0]
        · have hy0 : ¬ Y.1 = 0 := fun q => hv0 (i1.trans q)
          have hx1 : X.1 = 1 := hbz.resolve_left hv0
          rw [if_neg hv0] at hu
          rw [if_neg hy0] at hv
          cases hu
          cases hv
          refine ⟨rfl, fun _ => (show vp_updL o 0 1 0 = (if nI 1 = 0 then 0 else 1) by rw [if_neg (show ¬ nI 1 = 0 by decide)]; exact vl_us), ⟨⟨c1, c2, c3⟩, ⟨d1, d2, d3⟩, cl, cp, ⟨ca1, ca2⟩, ⟨k1, k2, k3, k4⟩, hx1, Or.inr hx1⟩, ⟨rE, rC, rT, rP, rL, rM, rA, rS⟩, ⟨A1, i3, hsr, A4, hwr, A6⟩, fun h => absurd h hv0, fun _ => ⟨sK, ⟨⟨fun _ => (f 1).toInt, fun _ => (f 2).toInt, ?_, ?_, ?_, ?_, rfl, rfl, fun o ho => by show 0 ≤ (f 1).toInt ∧ (f 1).toInt ≤ (f 2).toInt; omega, ?_⟩, ?_, ?_, ?_, ?_, ?_, (show 0 ≤ (nI 0).toInt by decide), (show (nI 0).toInt ≤ 8 by decide), ?_, ?_, Or.inr (fun j hj => lp_0 hj), fun q => absurd (show (nI 0).toInt = 8 from q) (by decide)⟩, ?_, ?_, ?_⟩⟩
          · intro o ho
            show (lp (f 1) 7 0 (x 15) o).toInt = (f 1).toInt
            rw [lp_0 ho]
          · intro o ho
            show (lp (f 2) 7 0 (x 16) o).toInt = (f 2).toInt
            rw [lp_0 ho]
          · intro o ho
            show (lpL (f 1).toInt64 6 0 (yl 9) o).toInt = (f 1).toInt
            rw [lpL_0 ho]; exact e1
          · intro o ho
            show (lpL (f 2).toInt64 6 0 (yl 10) o).toInt = (f 2).toInt
            rw [lpL_0 ho]; exact e2
          · show mt_ok (nu_F (x 2) (x 3) (x 5) (x 6) (x 9) (f 3) (f 4) (f 5) (f 6) (lp (nI 0) 4 0 (x 21))) (nu_F (x 2) (x 3) (x 5) (x 6) (x 9) (f 3) (f 4) (f 5) (f 6) (x 13)) (iE (x 8)) (8 - (nI 0).toInt).toNat (fun _ => (f 2).toInt)
            rw [show (8 - (nI 0).toInt).toNat = 8 by decide]
            exact i2 hx1
          · intro o ho
            show (lp (f 2) 6 0 (x 17) o).toInt = (lpL (f 2).toInt64 6 0 (yl 11) o).toInt
            rw [lp_0 ho, lpL_0 ho, e2]
          · intro o ho
            show lp (nI 0) 6 0 (x 18) o = y 14 o ∧ -200 ≤ (lp (nI 0) 6 0 (x 18) o).toInt ∧ (lp (nI 0) 6 0 (x 18) o).toInt ≤ 200
            rw [lp_0 ho, (U1 o ho).1]
            exact ⟨rfl, by decide, by decide⟩
          · intro o ho
            show lp (nI 1) 6 0 (x 19) o = 0 ↔ ¬ y 15 o = 0
            rw [lp_0 ho, (U1 o ho).2]
            exact ⟨fun q => absurd q (by decide), fun q => absurd (by decide) q⟩
          · intro j hj
            show lp (nI 0) 4 0 (x 21) j = y 16 j ∧ vp_in (lp (nI 0) 4 0 (x 21) j) 4
            rw [(U2 j hj).1, lp_0 hj]
            exact ⟨rfl, vin_0⟩
          · intro j hj
            show lp (nI 0) 4 0 (x 25) j = y 21 j ∧ 0 ≤ (lp (nI 0) 4 0 (x 25) j).toInt ∧ (lp (nI 0) 4 0 (x 25) j).toInt ≤ 1000000
            rw [(U2 j hj).2.2.2.2, lp_0 hj]
            exact ⟨rfl, by decide, by decide⟩
          · show 0 ≤ (g 9).toInt
            rw [U3]; decide
          · show (g 9).toInt ≤ 8
            rw [U3]; decide
          · intro j hj
            show lp (-1) 4 0 (x 22) j = y 18 j
            rw [lp_0 hj, (U2 j hj).2.1]
          · intro j hj
            show lp (nI 0) 4 0 (x 23) j = y 19 j
            rw [lp_0 hj, (U2 j hj).2.2.1]
          · intro j hj
            show lp (nI 0) 4 0 (x 24) j = y 20 j
            rw [lp_0 hj, (U2 j hj).2.2.2.1]
  · have hne : ¬ f 0 = 0 := by rw [h1]; decide
    have en : p_gNeedUnsealed (f 0) = Sum.inl 3 := by unfold p_gNeedUnsealed; rw [if_neg hne]
    rw [if_neg hne] at hv
    rw [en] at hu
    simp only [tx_then, tx_case, p_gNeedSealed, p_gNeedUnsealed, ap1, ap2, ap3, ap4, ap5, ap6, ap7, ap8, ap15, if_true, if_false, z10, z00, z20, z30, e21, e31, e32, e23, ite_self] at hu
    cases hu
    cases hv
    exact ⟨rfl, fun h => absurd h (by decide), ⟨⟨c1, c2, c3⟩, ⟨d1, d2, d3⟩, cl, cp, ⟨ca1, ca2⟩, ⟨k1, k2, k3, k4⟩, rfl, Or.inr h1⟩, ⟨rE, rC, rT, rP, rL, rM, rA, rS⟩, A, U, S⟩
set_option maxHeartbeats 2000000 in
theorem L_ask (R : Rel x f y yl g) (p_0 : Int32) (p_1 : Int32) (p_2 : Int32) {k9 : Int32} {u : (Nat → Int32) × (Nat → Int32)} (hu : (k9, u) = p_hAsk (f 0) (x 22) (x 23) p_0 p_1 p_2) {v : Int32 × (Nat → Int32) × (Nat → Int32)} (hv : v = p_mAsk (g 1) (y 18) (y 19) p_0 p_1 p_2) : v.1 = k9 ∧ Rel (va_up (va_up x 22 u.1) 23 u.2) f (va_up (va_up y 18 v.2.1) 19 v.2.2) yl (va_up g 0 v.1) := by
  obtain ⟨⟨⟨c1, c2, c3⟩, ⟨d1, d2, d3⟩, cl, cp, ⟨ca1, ca2⟩, ⟨k1, k2, k3, k4⟩, cs, c0⟩, ⟨rE, rC, rT, rP, rL, rM, rA, rS⟩, A, U, S⟩ := R
  have w1 : (nI 1).toInt = 1 := by decide
  have w0 : (nI 0).toInt = 0 := by decide
  have w10000 : (nI 10000).toInt = 10000 := by decide
  have w500 : (nI 500).toInt = 500 := by decide
  have w50000 : (nI 50000).toInt = 50000 := by decide
  have w100000 : (nI 100000).toInt = 100000 := by decide
  have w1000000 : (nI 1000000).toInt = 1000000 := by decide
  have w100 : (nI 100).toInt = 100 := by decide
  have w3 : (nI 3).toInt = 3 := by decide
  have w200 : (nI 200).toInt = 200 := by decide
  have wm200 : (-200 : Int32).toInt = -200 := by decide
  rw [← cs] at hv
  rcases t_ask (f 0) (x 22) (x 23) (y 18) (y 19) p_0 p_1 p_2 with ⟨k, e1, e2⟩ | ⟨hA, hB, hC, hS, e1, e2⟩
  · rw [e1] at hu
    rw [e2] at hv
    cases hu
    subst hv
    exact ⟨rfl, ⟨⟨c1, c2, c3⟩, ⟨d1, d2, d3⟩, cl, cp, ⟨ca1, ca2⟩, ⟨k1, k2, k3, k4⟩, cs, c0⟩, ⟨rE, rC, rT, rP, rL, rM, rA, rS⟩, A, U, S⟩
  · rw [e1] at hu
    rw [e2] at hv
    cases hu
    subst hv
    have hs1 : f 0 = 1 := c0.resolve_left hS
    obtain ⟨sK, ⟨sT, sP, sE, sA, sS, sD, s1, s2, s3, s4, s5, s6⟩, sW, sR, sQ⟩ := S hs1
    obtain ⟨A1, A2, A3, A4, A5, A6⟩ := A
    have q1 := n_clamp hA.1
    refine ⟨rfl, ⟨⟨c1, c2, c3⟩, ⟨d1, d2, d3⟩, cl, cp, ⟨ca1, ca2⟩, ⟨k1, k2, k3, k4⟩, cs, c0⟩, ⟨rE, rC, rT, rP, rL, rM, rA, rS⟩, ⟨A1, A2, A3, A4, fun j hj => up_2 (p := fun z => -1 ≤ z.toInt ∧ z.toInt ≤ 3) (by omega) (A5 j hj), fun j hj => up_2 (p := fun z => -1 ≤ z.toInt ∧ z.toInt ≤ 3) (by omega) (A6 j hj)⟩, fun h => absurd h hS, fun _ => ⟨sK, ⟨sT, sP, sE, sA, sS, sD, s1, s2, s3, s4, s5, s6⟩, fun j hj => up_eq (sW j hj), fun j hj => up_eq (sR j hj), sQ⟩⟩
set_option maxHeartbeats 2000000 in
theorem L_period (R : Rel x f y yl g) {k9 : Int32} {u : (Nat → Int32) × (Nat → Int32) × (Nat → Int32) × (Nat → Int32) × Int32 × (Nat → Int32) × (Nat → Int32) × (Nat → Int64)} (hu : (k9, u) = p_hPeriod (f 0) (f 7) (x 21) (x 22) (x 23) (x 24) (x 26) (x 12) (x 13) (f 3) (f 4) (f 5) (f 6) (x 2) (x 3) (x 5) (x 6) (x 8) (x 9) (x 10) (x 16) o) {v : Int32 × (Nat → Int32) × (Nat → Int32) × (Nat → Int32) × Int32 × (Nat → Int64) × (Nat → Int64) × (Nat → Int32)} {b9 : Int32} (hv : (b9, v) = p_mPeriod (g 1) (g 4) (g 5) (g 6) (g 7) (g 8) (g 9) (y 1) (y 2) (y 4) (y 5) (y 7) (y 8) (yl 10) (yl 12) (yl 13) (y 17) (y 16) (y 18) (y 19) (y 20)) : v.1 = k9 ∧ (k9 = 0 → u.2.2.2.2.2.2.2 0 = b9.toInt64) ∧ Rel (va_up (va_up (va_up (va_up (va_up (va_up x 21 u.1) 22 u.2.1) 24 u.2.2.1) 26 u.2.2.2.1) 12 u.2.2.2.2.2.1) 10 u.2.2.2.2.2.2.1) (va_up f 7 u.2.2.2.2.1) (va_up (va_up (va_up (va_up y 16 v.2.1) 18 v.2.2.1) 20 v.2.2.2.1) 17 v.2.2.2.2.2.2.2) (va_up (va_up yl 12 v.2.2.2.2.2.1) 13 v.2.2.2.2.2.2.1) (va_up (va_up g 0 v.1) 9 v.2.2.2.2.1) := by
  obtain ⟨⟨⟨c1, c2, c3⟩, ⟨d1, d2, d3⟩, cl, cp, ⟨ca1, ca2⟩, ⟨k1, k2, k3, k4⟩, cs, c0⟩, ⟨rE, rC, rT, rP, rL, rM, rA, rS⟩, A, U, S⟩ := R
  have w1 : (nI 1).toInt = 1 := by decide
  have w0 : (nI 0).toInt = 0 := by decide
  have w10000 : (nI 10000).toInt = 10000 := by decide
  have w500 : (nI 500).toInt = 500 := by decide
  have w50000 : (nI 50000).toInt = 50000 := by decide
  have w100000 : (nI 100000).toInt = 100000 := by decide
  have w1000000 : (nI 1000000).toInt = 1000000 := by decide
  have w100 : (nI 100).toInt = 100 := by decide
  have w3 : (nI 3).toInt = 3 := by decide
  have w200 : (nI 200).toInt = 200 := by decide
  have wm200 : (-200 : Int32).toInt = -200 := by decide
  rw [← cs, ← ca2, ← k1, ← k2, ← k3, ← k4, ← c1, ← c2, ← d1, ← d2, ← cl, ← cp] at hv
  unfold p_hPeriod p_gPeriod at hu
  unfold p_mPeriod at hv
  rcases c0 with h0 | h1
  · rw [if_pos h0] at hv
    simp only [h0, tx_then, tx_case, p_gNeedSealed, p_gNeedUnsealed, ap1, ap2, ap3, ap4, ap5, ap6, ap7, ap8, ap15, if_true, if_false, z10, z00, z20, z30, e21, e31, e32, e23, ite_self] at hu
    cases hu
    cases hv
    exact ⟨rfl, fun h => absurd h (by decide), ⟨⟨c1, c2, c3⟩, ⟨d1, d2, d3⟩, cl, cp, ⟨ca1, ca2⟩, ⟨k1, k2, k3, k4⟩, cs, Or.inl h0⟩, ⟨rE, rC, rT, rP, rL, rM, rA, rS⟩, A, U, S⟩
  · have hne : ¬ f 0 = 0 := by rw [h1]; decide
    obtain ⟨sK, ⟨⟨t, b, ht, hb, hqt, hqb, ht6, hb6, htb, hok⟩, sP, sE, sA, sS, sD, s1, s2, s3, s4, s5, s6⟩, sW, sR, sQ⟩ := S h1
    obtain ⟨A1, A2, A3, A4, A5, A6⟩ := A
    rw [if_neg hne] at hv
    have B := nu_b_of htb hok rM hb6 rA.2.2
    have hpr := rp_0 rP.2
    obtain ⟨fw, st9, wi9, wa9, gr9, tr9, go9, qst9, qwi9, qwa9, qtr9, nx9, pb9, e1, e2, p1, p2, p3, p4, p5⟩ := s_period (air := f 2) (steps := x 21) (wishes := x 22) (ranks := x 23) (waits := x 24) (qwishes := y 18) (qranks := y 19) (qwaits := y 20) (qtried := y 17) (qsteps := y 16) sK hpr A1 B hb hqb hb6.symm (fun j hj => ⟨sW j hj, (A5 j hj).2⟩) sR sQ (ok_idle sK hpr A1 (fun j hj => (sS j hj).2) hok) (x 26) (x 12) (x 10) (yl 12) (yl 13)
    rw [e1] at hu
    rw [e2] at hv
    simp only [hne, tx_then, tx_case, p_gNeedSealed, p_gNeedUnsealed, ap1, ap2, ap3, ap4, ap5, ap6, ap7, ap8, ap15, if_true, if_false, z10, z00, z20, z30, e21, e31, e32, e23, ite_self] at hu
    cases hu
    cases hv
    refine ⟨rfl, fun _ => (show vp_updL o 0 _ 0 = _ from vl_us), ⟨⟨c1, c2, c3⟩, ⟨d1, d2, d3⟩, cl, cp, ⟨ca1, ca2⟩, ⟨k1, k2, k3, k4⟩, cs, Or.inr h1⟩, ⟨rE, rC, rT, rP, rL, rM, rA, rS⟩, ⟨A1, p4, fun j hj => (p1 j hj).2, fun j hj => ?_, fun j hj => ?_, fun j hj => ?_⟩, fun h => absurd h hne, fun _ => ⟨sK, ⟨⟨t, b, ht, hb, hqt, hqb, ht6, hb6, htb, ?_⟩, sP, sE, sA, p1, sD, (show 0 ≤ (nI 0).toInt by decide), (show (nI 0).toInt ≤ 8 by decide), (show 0 ≤ (nI 8).toInt by decide), (show (nI 8).toInt ≤ 8 by decide), Or.inl (show (nI 0).toInt + (nI 8).toInt = 8 by decide), fun q => absurd (show (nI 0).toInt = 8 from q) (by decide)⟩, fun j hj => (p2 j hj).1, sR, p3⟩⟩
    · show vp_in (qst9 j) 4
      rw [← (p1 j hj).1]; exact (p1 j hj).2
    · show -1 ≤ (wi9 j).toInt ∧ (wi9 j).toInt ≤ 3
      rw [(p2 j hj).2, n_m1]; omega
    · show -1 ≤ (qwi9 j).toInt ∧ (qwi9 j).toInt ≤ 3
      rw [← (p2 j hj).1, (p2 j hj).2, n_m1]; omega
    · show mt_ok (nu_F (x 2) (x 3) (x 5) (x 6) (x 9) (f 3) (f 4) (f 5) (f 6) st9) (nu_F (x 2) (x 3) (x 5) (x 6) (x 9) (f 3) (f 4) (f 5) (f 6) (x 13)) (iE (x 8)) (8 - (nI 0).toInt).toNat b
      rw [show (8 - (nI 0).toInt).toNat = 8 by decide]
      exact p5
set_option maxHeartbeats 2000000 in
theorem L_tick (R : Rel x f y yl g) (p_0 : Int32) {k9 : Int32} {u : (Nat → Int32) × (Nat → Int32) × (Nat → Int32) × (Nat → Int32) × (Nat → Int32) × Int32 × (Nat → Int64)} (hu : (k9, u) = p_hTick (f 0) (x 15) (x 16) (x 17) (x 18) (x 19) (f 3) (f 4) (f 5) (f 6) (x 2) (x 3) (x 4) (x 5) (x 6) (x 7) (x 9) (x 10) (f 7) (x 21) (x 25) o p_0) {v : Int32 × (Nat → Int64) × (Nat → Int64) × (Nat → Int64) × (Nat → Int64) × (Nat → Int32) × Int32} {b9 : Int32} (hv : (b9, v) = p_mTick (g 1) (g 3) (g 4) (g 5) (g 6) (g 7) (g 8) (g 9) (y 1) (y 2) (y 3) (y 4) (y 5) (y 6) (y 8) (yl 9) (yl 10) (yl 11) (yl 12) (y 14) (y 15) (y 16) (y 21) p_0) : v.1 = k9 ∧ (k9 = 0 → u.2.2.2.2.2.2 0 = b9.toInt64) ∧ Rel (va_up (va_up (va_up (va_up (va_up x 15 u.1) 16 u.2.1) 17 u.2.2.1) 10 u.2.2.2.1) 21 u.2.2.2.2.1) (va_up f 7 u.2.2.2.2.2.1) (va_up y 16 v.2.2.2.2.2.1) (va_up (va_up (va_up (va_up yl 9 v.2.1) 10 v.2.2.1) 11 v.2.2.2.1) 12 v.2.2.2.2.1) (va_up (va_up g 0 v.1) 9 v.2.2.2.2.2.2) := by
  obtain ⟨⟨⟨c1, c2, c3⟩, ⟨d1, d2, d3⟩, cl, cp, ⟨ca1, ca2⟩, ⟨k1, k2, k3, k4⟩, cs, c0⟩, ⟨rE, rC, rT, rP, rL, rM, rA, rS⟩, A, U, S⟩ := R
  have w1 : (nI 1).toInt = 1 := by decide
  have w0 : (nI 0).toInt = 0 := by decide
  have w10000 : (nI 10000).toInt = 10000 := by decide
  have w500 : (nI 500).toInt = 500 := by decide
  have w50000 : (nI 50000).toInt = 50000 := by decide
  have w100000 : (nI 100000).toInt = 100000 := by decide
  have w1000000 : (nI 1000000).toInt = 1000000 := by decide
  have w100 : (nI 100).toInt = 100 := by decide
  have w3 : (nI 3).toInt = 3 := by decide
  have w200 : (nI 200).toInt = 200 := by decide
  have wm200 : (-200 : Int32).toInt = -200 := by decide
  rw [← cs, ← ca1, ← ca2, ← k1, ← k2, ← k3, ← k4, ← c1, ← c2, ← c3, ← d1, ← d2, ← d3, ← cp] at hv
  unfold p_hTick p_gTick at hu
  unfold p_mTick at hv
  rw [w_wit] at hu
  by_cases hA : (nI 1).toInt ≤ p_0.toInt ∧ p_0.toInt ≤ (nI 100).toInt
  · have m1 : ¬ p_0 < nI 1 := fun q => by have := n_lt.mp q; omega
    have m2 : p_0 ≤ nI 100 := n_le.mpr (by omega)
    rw [if_pos hA] at hu
    rw [if_neg m1, if_pos m2] at hv
    rcases c0 with h0 | h1
    · rw [if_pos h0] at hv
      simp only [h0, tx_then, tx_case, p_gNeedSealed, p_gNeedUnsealed, ap1, ap2, ap3, ap4, ap5, ap6, ap7, ap8, ap15, if_true, if_false, z10, z00, z20, z30, e21, e31, e32, e23, ite_self] at hu
      cases hu
      cases hv
      exact ⟨rfl, fun h => absurd h (by decide), ⟨⟨c1, c2, c3⟩, ⟨d1, d2, d3⟩, cl, cp, ⟨ca1, ca2⟩, ⟨k1, k2, k3, k4⟩, cs, Or.inl h0⟩, ⟨rE, rC, rT, rP, rL, rM, rA, rS⟩, A, U, S⟩
    · have hne : ¬ f 0 = 0 := by rw [h1]; decide
      obtain ⟨sK, sI, sW, sR, sQ⟩ := S h1
      obtain ⟨A1, A2, A3, A4, A5, A6⟩ := A
      rw [if_neg hne] at hv
      obtain ⟨bu, t1, b1, q1, g1, s1, h9, wr, qb, qp, nx, qs, le, e1, e2, I9⟩ := s_ticks sK rT rA A1 p_0.toNatClampNeg 0 0 (nI 0) (x 15) (x 16) (x 17) (x 10) (x 21) (f 7) (yl 9) (yl 10) (yl 11) (yl 12) (y 16) (g 9) sI
      rw [e1] at hu
      rw [e2] at hv
      simp only [hne, tx_then, tx_case, p_gNeedSealed, p_gNeedUnsealed, ap1, ap2, ap3, ap4, ap5, ap6, ap7, ap8, ap15, if_true, if_false, z10, z00, z20, z30, e21, e31, e32, e23, ite_self] at hu
      cases hu
      cases hv
      refine ⟨rfl, fun _ => (show vp_updL o 0 _ 0 = _ from vl_us), ⟨⟨c1, c2, c3⟩, ⟨d1, d2, d3⟩, cl, cp, ⟨ca1, ca2⟩, ⟨k1, k2, k3, k4⟩, cs, Or.inr h1⟩, ⟨rE, rC, rT, rP, rL, rM, rA, rS⟩, ⟨A1, A2, fun j hj => (I9.2.2.2.2.1 j hj).2, fun j hj => ?_, A5, A6⟩, fun h => absurd h hne, fun _ => ⟨sK, I9, sW, sR, sQ⟩⟩
      have q9 := I9.2.2.2.2.1 j hj
      show vp_in (qs j) 4
      rw [← q9.1]
      exact q9.2
  · have hk : ¬ ((nI 1).toInt ≤ p_0.toInt ∧ p_0.toInt ≤ (nI 100).toInt) := hA
    rw [if_neg hk] at hu
    simp only [tx_then, tx_case, p_gNeedSealed, p_gNeedUnsealed, ap1, ap2, ap3, ap4, ap5, ap6, ap7, ap8, ap15, if_true, if_false, z10, z00, z20, z30, e21, e31, e32, e23, ite_self] at hu
    by_cases m1 : p_0 < nI 1
    · rw [if_pos m1] at hv
      cases hu
      cases hv
      exact ⟨rfl, fun h => absurd h (by decide), ⟨⟨c1, c2, c3⟩, ⟨d1, d2, d3⟩, cl, cp, ⟨ca1, ca2⟩, ⟨k1, k2, k3, k4⟩, cs, c0⟩, ⟨rE, rC, rT, rP, rL, rM, rA, rS⟩, A, U, S⟩
    · have m2 : ¬ p_0 ≤ nI 100 := fun q => hk ⟨by have : ¬ p_0.toInt < (nI 1).toInt := fun z => m1 (n_lt.mpr z); omega, n_le.mp q⟩
      rw [if_neg m1, if_neg m2] at hv
      cases hu
      cases hv
      exact ⟨rfl, fun h => absurd h (by decide), ⟨⟨c1, c2, c3⟩, ⟨d1, d2, d3⟩, cl, cp, ⟨ca1, ca2⟩, ⟨k1, k2, k3, k4⟩, cs, c0⟩, ⟨rE, rC, rT, rP, rL, rM, rA, rS⟩, A, U, S⟩
set_option maxHeartbeats 2000000 in
theorem L_draw (R : Rel x f y yl g) (p_0 : Int32) (p_1 : Int32) {k9 : Int32} {u : (Nat → Int32)} (hu : (k9, u) = p_hDraw (f 0) (x 25) p_0 p_1) {v : Int32 × (Nat → Int32)} (hv : v = p_mDraw (g 1) (y 21) p_0 p_1) : v.1 = k9 ∧ Rel (va_up x 25 u) f (va_up y 21 v.2) yl (va_up g 0 v.1) := by
  obtain ⟨⟨⟨c1, c2, c3⟩, ⟨d1, d2, d3⟩, cl, cp, ⟨ca1, ca2⟩, ⟨k1, k2, k3, k4⟩, cs, c0⟩, ⟨rE, rC, rT, rP, rL, rM, rA, rS⟩, A, U, S⟩ := R
  have w1 : (nI 1).toInt = 1 := by decide
  have w0 : (nI 0).toInt = 0 := by decide
  have w10000 : (nI 10000).toInt = 10000 := by decide
  have w500 : (nI 500).toInt = 500 := by decide
  have w50000 : (nI 50000).toInt = 50000 := by decide
  have w100000 : (nI 100000).toInt = 100000 := by decide
  have w1000000 : (nI 1000000).toInt = 1000000 := by decide
  have w100 : (nI 100).toInt = 100 := by decide
  have w3 : (nI 3).toInt = 3 := by decide
  have w200 : (nI 200).toInt = 200 := by decide
  have wm200 : (-200 : Int32).toInt = -200 := by decide
  rw [← cs] at hv
  rcases t_draw (f 0) (x 25) (y 21) p_0 p_1 with ⟨k, e1, e2⟩ | ⟨hA, hB, hS, e1, e2⟩
  · rw [e1] at hu
    rw [e2] at hv
    cases hu
    subst hv
    exact ⟨rfl, ⟨⟨c1, c2, c3⟩, ⟨d1, d2, d3⟩, cl, cp, ⟨ca1, ca2⟩, ⟨k1, k2, k3, k4⟩, cs, c0⟩, ⟨rE, rC, rT, rP, rL, rM, rA, rS⟩, A, U, S⟩
  · rw [e1] at hu
    rw [e2] at hv
    cases hu
    subst hv
    have hs1 : f 0 = 1 := c0.resolve_left hS
    obtain ⟨sK, ⟨sT, sP, sE, sA, sS, sD, s1, s2, s3, s4, s5, s6⟩, sW, sR, sQ⟩ := S hs1
    obtain ⟨A1, A2, A3, A4, A5, A6⟩ := A
    have q1 := n_clamp hA.1
    refine ⟨rfl, ⟨⟨c1, c2, c3⟩, ⟨d1, d2, d3⟩, cl, cp, ⟨ca1, ca2⟩, ⟨k1, k2, k3, k4⟩, cs, c0⟩, ⟨rE, rC, rT, rP, rL, rM, rA, rS⟩, ⟨A1, A2, A3, A4, A5, A6⟩, fun h => absurd h hS, fun _ => ⟨sK, ⟨sT, sP, sE, sA, sS, fun j hj => ⟨up_eq (sD j hj).1, up_2 (p := fun z => 0 ≤ z.toInt ∧ z.toInt ≤ 1000000) (by omega) (sD j hj).2⟩, s1, s2, s3, s4, s5, s6⟩, sW, sR, sQ⟩⟩
set_option maxHeartbeats 2000000 in
theorem L_sensor (R : Rel x f y yl g) (p_0 : Int32) (p_1 : Int32) (p_2 : Int32) {k9 : Int32} {u : (Nat → Int32) × (Nat → Int32)} (hu : (k9, u) = p_hSensor (f 0) (x 18) (x 19) p_0 p_1 p_2) {v : Int32 × (Nat → Int32) × (Nat → Int32)} (hv : v = p_mSensor (g 1) (y 14) (y 15) p_0 p_1 p_2) (hlv : p_2 = 0 ∨ p_2 = 1) : v.1 = k9 ∧ Rel (va_up (va_up x 18 u.1) 19 u.2) f (va_up (va_up y 14 v.2.1) 15 v.2.2) yl (va_up g 0 v.1) := by
  obtain ⟨⟨⟨c1, c2, c3⟩, ⟨d1, d2, d3⟩, cl, cp, ⟨ca1, ca2⟩, ⟨k1, k2, k3, k4⟩, cs, c0⟩, ⟨rE, rC, rT, rP, rL, rM, rA, rS⟩, A, U, S⟩ := R
  have w1 : (nI 1).toInt = 1 := by decide
  have w0 : (nI 0).toInt = 0 := by decide
  have w10000 : (nI 10000).toInt = 10000 := by decide
  have w500 : (nI 500).toInt = 500 := by decide
  have w50000 : (nI 50000).toInt = 50000 := by decide
  have w100000 : (nI 100000).toInt = 100000 := by decide
  have w1000000 : (nI 1000000).toInt = 1000000 := by decide
  have w100 : (nI 100).toInt = 100 := by decide
  have w3 : (nI 3).toInt = 3 := by decide
  have w200 : (nI 200).toInt = 200 := by decide
  have wm200 : (-200 : Int32).toInt = -200 := by decide
  rw [← cs] at hv
  rcases t_sensor (f 0) (x 18) (x 19) (y 14) (y 15) p_0 p_1 p_2 with ⟨k, e1, e2⟩ | ⟨hA, hB, hS, e1, e2⟩
  · rw [e1] at hu
    rw [e2] at hv
    cases hu
    subst hv
    exact ⟨rfl, ⟨⟨c1, c2, c3⟩, ⟨d1, d2, d3⟩, cl, cp, ⟨ca1, ca2⟩, ⟨k1, k2, k3, k4⟩, cs, c0⟩, ⟨rE, rC, rT, rP, rL, rM, rA, rS⟩, A, U, S⟩
  · rw [e1] at hu
    rw [e2] at hv
    cases hu
    subst hv
    have hs1 : f 0 = 1 := c0.resolve_left hS
    obtain ⟨sK, ⟨sT, sP, sE, sA, sS, sD, s1, s2, s3, s4, s5, s6⟩, sW, sR, sQ⟩ := S hs1
    obtain ⟨A1, A2, A3, A4, A5, A6⟩ := A
    have q1 := n_clamp hA.1
    refine ⟨rfl, ⟨⟨c1, c2, c3⟩, ⟨d1, d2, d3⟩, cl, cp, ⟨ca1, ca2⟩, ⟨k1, k2, k3, k4⟩, cs, c0⟩, ⟨rE, rC, rT, rP, rL, rM, rA, rS⟩, ⟨A1, A2, A3, A4, A5, A6⟩, fun h => absurd h hS, fun _ => ⟨sK, ⟨sT, sP, fun j hj => ⟨up_eq (sE j hj).1, up_2 (p := fun z => -200 ≤ z.toInt ∧ z.toInt ≤ 200) (by omega) (sE j hj).2⟩, fun j hj => up_al hlv (sA j hj), sS, sD, s1, s2, s3, s4, s5, s6⟩, sW, sR, sQ⟩⟩
set_option maxHeartbeats 2000000 in
theorem L_ahead (R : Rel x f y yl g) (p_0 : Int32) {k9 : Int32} {u : (Nat → Int32) × (Nat → Int32) × (Nat → Int32) × (Nat → Int64)} (hu : (k9, u) = p_hAhead (f 0) (x 27) (x 12) (x 13) (f 3) (f 4) (f 5) (f 6) (x 2) (x 3) (x 5) (x 6) (x 8) (x 9) (x 10) (x 16) o p_0) {v : Int32 × (Nat → Int64) × (Nat → Int64) × (Nat → Int32)} {b9 : Int32} (hv : (b9, v) = p_mAhead (g 1) (g 4) (g 5) (g 6) (g 7) (g 8) (y 1) (y 2) (y 4) (y 5) (y 7) (y 8) (yl 10) (yl 12) (yl 13) (y 17) p_0) : v.1 = k9 ∧ (k9 = 0 → u.2.2.2 0 = (if b9 = 0 then 0 else 1)) ∧ Rel (va_up (va_up (va_up x 27 u.1) 10 u.2.1) 12 u.2.2.1) f (va_up y 17 v.2.2.2) (va_up (va_up yl 12 v.2.1) 13 v.2.2.1) (va_up g 0 v.1) := by
  obtain ⟨⟨⟨c1, c2, c3⟩, ⟨d1, d2, d3⟩, cl, cp, ⟨ca1, ca2⟩, ⟨k1, k2, k3, k4⟩, cs, c0⟩, ⟨rE, rC, rT, rP, rL, rM, rA, rS⟩, A, U, S⟩ := R
  have w1 : (nI 1).toInt = 1 := by decide
  have w0 : (nI 0).toInt = 0 := by decide
  have w10000 : (nI 10000).toInt = 10000 := by decide
  have w500 : (nI 500).toInt = 500 := by decide
  have w50000 : (nI 50000).toInt = 50000 := by decide
  have w100000 : (nI 100000).toInt = 100000 := by decide
  have w1000000 : (nI 1000000).toInt = 1000000 := by decide
  have w100 : (nI 100).toInt = 100 := by decide
  have w3 : (nI 3).toInt = 3 := by decide
  have w200 : (nI 200).toInt = 200 := by decide
  have wm200 : (-200 : Int32).toInt = -200 := by decide
  rw [← cs, ← ca2, ← k1, ← k2, ← k3, ← k4, ← c1, ← c2, ← d1, ← d2, ← cl, ← cp] at hv
  have w255 : (nI 255).toInt = 255 := by decide
  unfold p_hAhead p_gAhead at hu
  unfold p_mAhead at hv
  rw [w_wit] at hu
  by_cases hA : (nI 0).toInt ≤ p_0.toInt ∧ p_0.toInt ≤ (nI 255).toInt
  · have m1 : ¬ p_0 < 0 := fun q => by have := n_lt.mp q; rw [n_0] at this; omega
    have m2 : p_0 ≤ nI 255 := n_le.mpr (by omega)
    rw [if_pos hA] at hu
    rw [if_neg m1, if_pos m2] at hv
    rcases c0 with h0 | h1
    · rw [if_pos h0] at hv
      simp only [h0, tx_then, tx_case, p_gNeedSealed, p_gNeedUnsealed, ap1, ap2, ap3, ap4, ap5, ap6, ap7, ap8, ap15, if_true, if_false, z10, z00, z20, z30, e21, e31, e32, e23, ite_self] at hu
      cases hu
      cases hv
      exact ⟨rfl, fun h => absurd h (by decide), ⟨⟨c1, c2, c3⟩, ⟨d1, d2, d3⟩, cl, cp, ⟨ca1, ca2⟩, ⟨k1, k2, k3, k4⟩, cs, Or.inl h0⟩, ⟨rE, rC, rT, rP, rL, rM, rA, rS⟩, A, U, S⟩
    · have hne : ¬ f 0 = 0 := by rw [h1]; decide
      obtain ⟨sK, ⟨⟨t, b, ht, hb, hqt, hqb, ht6, hb6, htb, hok⟩, sP, sE, sA, sS, sD, s1, s2, s3, s4, s5, s6⟩, sW, sR, sQ⟩ := S h1
      obtain ⟨A1, A2, A3, A4, A5, A6⟩ := A
      rw [if_neg hne] at hv
      have B := nu_b_of htb hok rM hb6 rA.2.2
      obtain ⟨lk, q1, q2⟩ := c_ah14 (trial := x 12) (grow := x 10) (row := p_0) (idle := x 13) (bnd := x 16) (base := f 3) (slope := f 4) (steep := f 5) (knee := f 6) (lowCap := x 2) (highCap := x 3) (lowE := x 5) (highE := x 6) (lim := x 8) (powr := x 9) 4 0 (x 27) rfl (fun j hj => by omega)
      obtain ⟨td, r1, r2⟩ := m_ah42 (row := p_0) (air := f 2) (bou := yl 10) (nxt := yl 12) (prb := yl 13) (base := f 3) (slope := f 4) (steep := f 5) (knee := f 6) (lowCap := x 2) (highCap := x 3) (lowE := x 5) (highE := x 6) (lim := x 8) (powr := x 9) 4 0 (y 17) rfl (fun j hj => by omega)
      obtain ⟨i1, i2, i3⟩ := s_safe (air := f 2) (stp := lk) (trd := td) sK (fun j hj => by rw [q1 j hj]; exact and3_in _) (fun j hj => by rw [q1 j hj, r1 j hj]) A1 B hb hqb hb6.symm (x 12) (x 10) (yl 12) (yl 13)
      rw [q2, c_ahz] at hu
      rw [r2, m_ahz] at hv
      generalize p_isSafe (x 12) (x 13) (f 3) (f 4) (f 5) (f 6) (x 2) (x 3) (x 5) (x 6) (x 8) (x 9) (x 10) (x 16) lk = X at hu i1 i2
      generalize p_mIsSafe (f 2) (f 3) (f 4) (f 5) (f 6) (x 2) (x 3) (x 5) (x 6) (x 8) (x 9) (yl 10) (yl 12) (yl 13) td = Y at hv i1 i3
      simp only [hne, tx_then, tx_case, p_gNeedSealed, p_gNeedUnsealed, ap1, ap2, ap3, ap4, ap5, ap6, ap7, ap8, ap15, if_true, if_false, z10, z00, z20, z30, e21, e31, e32, e23, ite_self] at hu
      by_cases hv0 : X.1 = 0
      · rw [if_pos hv0] at hu
        cases hu
        cases hv
        refine ⟨rfl, fun _ => ?_, ⟨⟨c1, c2, c3⟩, ⟨d1, d2, d3⟩, cl, cp, ⟨ca1, ca2⟩, ⟨k1, k2, k3, k4⟩, cs, Or.inr h1⟩, ⟨rE, rC, rT, rP, rL, rM, rA, rS⟩, ⟨A1, i3, A3, A4, A5, A6⟩, fun h => absurd h hne, fun _ => S h1⟩
        show vp_updL o 0 0 0 = if Y.1 = 0 then 0 else 1
        rw [if_pos (i1.symm.trans hv0)]
        exact vl_us
      · rw [if_neg hv0] at hu
        cases hu
        cases hv
        refine ⟨rfl, fun _ => ?_, ⟨⟨c1, c2, c3⟩, ⟨d1, d2, d3⟩, cl, cp, ⟨ca1, ca2⟩, ⟨k1, k2, k3, k4⟩, cs, Or.inr h1⟩, ⟨rE, rC, rT, rP, rL, rM, rA, rS⟩, ⟨A1, i3, A3, A4, A5, A6⟩, fun h => absurd h hne, fun _ => S h1⟩
        show vp_updL o 0 1 0 = if Y.1 = 0 then 0 else 1
        rw [if_neg (fun q => hv0 (i1.trans q))]
        exact vl_us
  · rw [if_neg hA] at hu
    simp only [tx_then, tx_case, p_gNeedSealed, p_gNeedUnsealed, ap1, ap2, ap3, ap4, ap5, ap6, ap7, ap8, ap15, if_true, if_false, z10, z00, z20, z30, e21, e31, e32, e23, ite_self] at hu
    by_cases m1 : p_0 < 0
    · rw [if_pos m1] at hv
      cases hu
      cases hv
      exact ⟨rfl, fun h => absurd h (by decide), ⟨⟨c1, c2, c3⟩, ⟨d1, d2, d3⟩, cl, cp, ⟨ca1, ca2⟩, ⟨k1, k2, k3, k4⟩, cs, c0⟩, ⟨rE, rC, rT, rP, rL, rM, rA, rS⟩, A, U, S⟩
    · have m2 : ¬ p_0 ≤ nI 255 := fun q => hA ⟨by have z9 : ¬ p_0.toInt < (0 : Int32).toInt := fun z => m1 (n_lt.mpr z); rw [n_0] at z9; omega, n_le.mp q⟩
      rw [if_neg m1, if_neg m2] at hv
      cases hu
      cases hv
      exact ⟨rfl, fun h => absurd h (by decide), ⟨⟨c1, c2, c3⟩, ⟨d1, d2, d3⟩, cl, cp, ⟨ca1, ca2⟩, ⟨k1, k2, k3, k4⟩, cs, c0⟩, ⟨rE, rC, rT, rP, rL, rM, rA, rS⟩, A, U, S⟩
set_option maxHeartbeats 2000000 in
theorem L_node (R : Rel x f y yl g) (p_0 : Int32) (p_1 : Int32) {k9 : Int32} {u : (Nat → Int64)} (hu : (k9, u) = p_hNode (f 0) (x 15) (x 16) (x 17) (x 18) (x 19) o p_0 p_1) {v : Int32} {b9 : Int32} (hv : (b9, v) = p_mNode (g 1) (yl 9) (yl 10) (yl 11) (y 14) (y 15) p_0 p_1) : v = k9 ∧ (k9 = 0 → u 0 = b9.toInt64) ∧ Rel x f y yl (va_up g 0 v) := by
  obtain ⟨⟨⟨c1, c2, c3⟩, ⟨d1, d2, d3⟩, cl, cp, ⟨ca1, ca2⟩, ⟨k1, k2, k3, k4⟩, cs, c0⟩, ⟨rE, rC, rT, rP, rL, rM, rA, rS⟩, A, U, S⟩ := R
  have w1 : (nI 1).toInt = 1 := by decide
  have w0 : (nI 0).toInt = 0 := by decide
  have w10000 : (nI 10000).toInt = 10000 := by decide
  have w500 : (nI 500).toInt = 500 := by decide
  have w50000 : (nI 50000).toInt = 50000 := by decide
  have w100000 : (nI 100000).toInt = 100000 := by decide
  have w1000000 : (nI 1000000).toInt = 1000000 := by decide
  have w100 : (nI 100).toInt = 100 := by decide
  have w3 : (nI 3).toInt = 3 := by decide
  have w200 : (nI 200).toInt = 200 := by decide
  have wm200 : (-200 : Int32).toInt = -200 := by decide
  rw [← cs] at hv
  have hR : Rel x f y yl (va_up g 0 v) := ⟨⟨⟨c1, c2, c3⟩, ⟨d1, d2, d3⟩, cl, cp, ⟨ca1, ca2⟩, ⟨k1, k2, k3, k4⟩, cs, c0⟩, ⟨rE, rC, rT, rP, rL, rM, rA, rS⟩, A, U, S⟩
  unfold p_hNode p_gNode at hu
  unfold p_mNode at hv
  simp only [w_idx (show (nI 4).toInt = 4 by decide), w_idx (show (nI 6).toInt = 6 by decide)] at hu
  simp only [w_node, w_mwi] at hv
  by_cases hA : 0 ≤ p_0.toInt ∧ p_0.toInt < 6
  · by_cases hB : 0 ≤ p_1.toInt ∧ p_1.toInt < 4
    · have hB2 : (nI 0).toInt ≤ p_1.toInt ∧ p_1.toInt ≤ (nI 3).toInt := by omega
      rcases c0 with h0 | h1
      · simp only [hA, hB, h0, tx_then, tx_case, p_gNeedSealed, p_gNeedUnsealed, ap1, ap2, ap3, ap4, ap5, ap6, ap7, ap8, ap15, if_true, if_false, z10, z00, z20, z30, e21, e31, e32, e23, ite_self, and_self] at hu
        simp only [hA, hB2, h0, tx_then, tx_case, p_gNeedSealed, p_gNeedUnsealed, ap1, ap2, ap3, ap4, ap5, ap6, ap7, ap8, ap15, if_true, if_false, z10, z00, z20, z30, e21, e31, e32, e23, ite_self, and_self] at hv
        cases hu
        cases hv
        exact ⟨rfl, fun h => absurd h (by decide), hR⟩
      · have hne : ¬ f 0 = 0 := by rw [h1]; decide
        obtain ⟨sK, ⟨⟨t, b, ht, hb, hqt, hqb, ht6, hb6, htb, hok⟩, sP, sE, sA, sS, sD, s1, s2, s3, s4, s5, s6⟩, sW, sR, sQ⟩ := S h1
        have hk6 : p_0.toNatClampNeg < 6 := by have := n_clamp hA.1; omega
        have hlim := mt_ok_now hok _ hk6
        have hM9 := rM _ hk6
        have htb9 := htb _ (show p_0.toNatClampNeg < 7 by omega)
        have bl : b p_0.toNatClampNeg ≤ 50000 := by
          have : b p_0.toNatClampNeg ≤ (x 8 p_0.toNatClampNeg).toInt := hlim
          omega
        simp only [hA, hB, hne, tx_then, tx_case, p_gNeedSealed, p_gNeedUnsealed, ap1, ap2, ap3, ap4, ap5, ap6, ap7, ap8, ap15, if_true, if_false, z10, z00, z20, z30, e21, e31, e32, e23, ite_self, and_self] at hu
        simp only [hA, hB2, hne, tx_then, tx_case, p_gNeedSealed, p_gNeedUnsealed, ap1, ap2, ap3, ap4, ap5, ap6, ap7, ap8, ap15, if_true, if_false, z10, z00, z20, z30, e21, e31, e32, e23, ite_self, and_self] at hv
        rcases st_4 hB with rfl | rfl | rfl | rfl
        · rw [if_pos rfl] at hu
          rw [if_pos (show nI 0 = 0 by decide)] at hv
          cases hu
          cases hv
          exact ⟨rfl, fun _ => by rw [← l_32 (ht _ (by omega)) (hqt _ hk6)]; exact vl_us, hR⟩
        · rw [if_neg (show ¬ nI 1 = nI 0 by decide), if_pos rfl] at hu
          rw [if_neg (show ¬ nI 1 = 0 by decide), if_pos rfl] at hv
          cases hu
          cases hv
          exact ⟨rfl, fun _ => by rw [← l_32 (hb _ (by omega)) (hqb _ hk6)]; exact vl_us, hR⟩
        · rw [if_neg (show ¬ nI 2 = nI 0 by decide), if_neg (show ¬ nI 2 = nI 1 by decide), if_pos rfl] at hu
          rw [if_neg (show ¬ nI 2 = 0 by decide), if_neg (show ¬ nI 2 = nI 1 by decide), if_pos rfl] at hv
          cases hu
          cases hv
          exact ⟨rfl, fun _ => by rw [← l_32 (sP _ hk6) rfl]; exact vl_us, hR⟩
        · rw [if_neg (show ¬ nI 3 = nI 0 by decide), if_neg (show ¬ nI 3 = nI 1 by decide), if_neg (show ¬ nI 3 = nI 2 by decide)] at hu
          rw [if_neg (show ¬ nI 3 = 0 by decide), if_neg (show ¬ nI 3 = nI 1 by decide), if_neg (show ¬ nI 3 = nI 2 by decide)] at hv
          by_cases ha : x 19 p_0.toNatClampNeg = 0
          · rw [if_pos ha] at hu
            rw [if_neg ((sA _ hk6).mp ha)] at hv
            cases hu
            cases hv
            exact ⟨rfl, fun _ => vl_us.trans (by decide), hR⟩
          · have hd : y 15 p_0.toNatClampNeg = 0 := by
              by_cases q : y 15 p_0.toNatClampNeg = 0
              · exact q
              · exact absurd ((sA _ hk6).mpr q) ha
            rw [if_neg ha] at hu
            rw [if_pos hd] at hv
            cases hu
            cases hv
            obtain ⟨q1, q2, q3⟩ := sE _ hk6
            have r1 : (p_reading (x 15) (x 18) p_0.toNatClampNeg).toInt = t p_0.toNatClampNeg + (x 18 p_0.toNatClampNeg).toInt := by
              unfold p_reading
              have q9 := ht _ (show p_0.toNatClampNeg < 7 by omega)
              rw [n_add (by rw [q9]; omega) (by rw [q9]; omega), q9]
            have r2 : (yl 9 p_0.toNatClampNeg + (y 14 p_0.toNatClampNeg).toInt64).toInt = t p_0.toNatClampNeg + (x 18 p_0.toNatClampNeg).toInt := by
              have q9 := hqt _ hk6
              have c9 := Int32.toInt_toInt64 (y 14 p_0.toNatClampNeg)
              rw [← q1] at c9
              rw [← q1, l_add (by rw [q9, c9]; omega) (by rw [q9, c9]; omega), q9, c9]
            exact ⟨rfl, fun _ => by rw [← l_32 r1 r2]; exact vl_us, hR⟩
    · have hB2 : ¬ ((nI 0).toInt ≤ p_1.toInt ∧ p_1.toInt ≤ (nI 3).toInt) := by omega
      simp only [hA, hB, tx_then, tx_case, p_gNeedSealed, p_gNeedUnsealed, ap1, ap2, ap3, ap4, ap5, ap6, ap7, ap8, ap15, if_true, if_false, z10, z00, z20, z30, e21, e31, e32, e23, ite_self, and_self] at hu
      simp only [hA, hB2, tx_then, tx_case, p_gNeedSealed, p_gNeedUnsealed, ap1, ap2, ap3, ap4, ap5, ap6, ap7, ap8, ap15, if_true, if_false, z10, z00, z20, z30, e21, e31, e32, e23, ite_self, and_self] at hv
      cases hu
      cases hv
      exact ⟨rfl, fun h => absurd h (by decide), hR⟩
  · simp only [hA, tx_then, tx_case, p_gNeedSealed, p_gNeedUnsealed, ap1, ap2, ap3, ap4, ap5, ap6, ap7, ap8, ap15, if_true, if_false, z10, z00, z20, z30, e21, e31, e32, e23, ite_self] at hu
    simp only [hA, tx_then, tx_case, p_gNeedSealed, p_gNeedUnsealed, ap1, ap2, ap3, ap4, ap5, ap6, ap7, ap8, ap15, if_true, if_false, z10, z00, z20, z30, e21, e31, e32, e23, ite_self] at hv
    cases hu
    cases hv
    exact ⟨rfl, fun h => absurd h (by decide), hR⟩
set_option maxHeartbeats 2000000 in
theorem L_core (R : Rel x f y yl g) (p_0 : Int32) (p_1 : Int32) {k9 : Int32} {u : (Nat → Int64)} (hu : (k9, u) = p_hCore (f 0) (x 9) (x 21) (x 22) (x 24) (x 25) o p_0 p_1) {v : Int32} {b9 : Int32} (hv : (b9, v) = p_mCore (g 1) (y 8) (y 16) (y 18) (y 20) (y 21) p_0 p_1) : v = k9 ∧ (k9 = 0 → u 0 = b9.toInt64) ∧ Rel x f y yl (va_up g 0 v) := by
  obtain ⟨⟨⟨c1, c2, c3⟩, ⟨d1, d2, d3⟩, cl, cp, ⟨ca1, ca2⟩, ⟨k1, k2, k3, k4⟩, cs, c0⟩, ⟨rE, rC, rT, rP, rL, rM, rA, rS⟩, A, U, S⟩ := R
  have w1 : (nI 1).toInt = 1 := by decide
  have w0 : (nI 0).toInt = 0 := by decide
  have w10000 : (nI 10000).toInt = 10000 := by decide
  have w500 : (nI 500).toInt = 500 := by decide
  have w50000 : (nI 50000).toInt = 50000 := by decide
  have w100000 : (nI 100000).toInt = 100000 := by decide
  have w1000000 : (nI 1000000).toInt = 1000000 := by decide
  have w100 : (nI 100).toInt = 100 := by decide
  have w3 : (nI 3).toInt = 3 := by decide
  have w200 : (nI 200).toInt = 200 := by decide
  have wm200 : (-200 : Int32).toInt = -200 := by decide
  rw [← cs, ← cp] at hv
  have hR : Rel x f y yl (va_up g 0 v) := ⟨⟨⟨c1, c2, c3⟩, ⟨d1, d2, d3⟩, cl, cp, ⟨ca1, ca2⟩, ⟨k1, k2, k3, k4⟩, cs, c0⟩, ⟨rE, rC, rT, rP, rL, rM, rA, rS⟩, A, U, S⟩
  unfold p_hCore p_gCore at hu
  unfold p_mCore at hv
  simp only [w_idx (show (nI 4).toInt = 4 by decide)] at hu
  simp only [w_core, w_mwi] at hv
  by_cases hA : 0 ≤ p_0.toInt ∧ p_0.toInt < 4
  · by_cases hB : 0 ≤ p_1.toInt ∧ p_1.toInt < 4
    · have hB2 : (nI 0).toInt ≤ p_1.toInt ∧ p_1.toInt ≤ (nI 3).toInt := by omega
      rcases c0 with h0 | h1
      · simp only [hA, hB, h0, tx_then, tx_case, p_gNeedSealed, p_gNeedUnsealed, ap1, ap2, ap3, ap4, ap5, ap6, ap7, ap8, ap15, if_true, if_false, z10, z00, z20, z30, e21, e31, e32, e23, ite_self, and_self] at hu
        simp only [hA, hB2, h0, tx_then, tx_case, p_gNeedSealed, p_gNeedUnsealed, ap1, ap2, ap3, ap4, ap5, ap6, ap7, ap8, ap15, if_true, if_false, z10, z00, z20, z30, e21, e31, e32, e23, ite_self, and_self] at hv
        cases hu
        cases hv
        exact ⟨rfl, fun h => absurd h (by decide), hR⟩
      · have hne : ¬ f 0 = 0 := by rw [h1]; decide
        obtain ⟨sK, ⟨sT, sP, sE, sA, sS, sD, s1, s2, s3, s4, s5, s6⟩, sW, sR, sQ⟩ := S h1
        have hk4 : p_0.toNatClampNeg < 4 := by have := n_clamp hA.1; omega
        simp only [hA, hB, hne, tx_then, tx_case, p_gNeedSealed, p_gNeedUnsealed, ap1, ap2, ap3, ap4, ap5, ap6, ap7, ap8, ap15, if_true, if_false, z10, z00, z20, z30, e21, e31, e32, e23, ite_self, and_self] at hu
        simp only [hA, hB2, hne, tx_then, tx_case, p_gNeedSealed, p_gNeedUnsealed, ap1, ap2, ap3, ap4, ap5, ap6, ap7, ap8, ap15, if_true, if_false, z10, z00, z20, z30, e21, e31, e32, e23, ite_self, and_self] at hv
        rcases st_4 hB with rfl | rfl | rfl | rfl
        · rw [if_pos rfl] at hu
          rw [if_pos (show nI 0 = 0 by decide)] at hv
          cases hu
          cases hv
          exact ⟨rfl, fun _ => by rw [← (sS _ hk4).1]; exact vl_us, hR⟩
        · rw [if_neg (show ¬ nI 1 = nI 0 by decide), if_pos rfl] at hu
          rw [if_neg (show ¬ nI 1 = 0 by decide), if_pos rfl] at hv
          cases hu
          cases hv
          exact ⟨rfl, fun _ => by rw [← sW _ hk4]; exact vl_us, hR⟩
        · rw [if_neg (show ¬ nI 2 = nI 0 by decide), if_neg (show ¬ nI 2 = nI 1 by decide), if_pos rfl] at hu
          rw [if_neg (show ¬ nI 2 = 0 by decide), if_neg (show ¬ nI 2 = nI 1 by decide), if_pos rfl] at hv
          cases hu
          cases hv
          exact ⟨rfl, fun _ => by rw [← sQ _ hk4]; exact vl_us, hR⟩
        · rw [if_neg (show ¬ nI 3 = nI 0 by decide), if_neg (show ¬ nI 3 = nI 1 by decide), if_neg (show ¬ nI 3 = nI 2 by decide)] at hu
          rw [if_neg (show ¬ nI 3 = 0 by decide), if_neg (show ¬ nI 3 = nI 1 by decide), if_neg (show ¬ nI 3 = nI 2 by decide)] at hv
          cases hu
          cases hv
          refine ⟨rfl, fun _ => ?_, hR⟩
          rw [s_drawn]
          unfold p_trueDraw
          rw [← (sS _ hk4).1, ← (sD _ hk4).1]
          exact vl_us
    · have hB2 : ¬ ((nI 0).toInt ≤ p_1.toInt ∧ p_1.toInt ≤ (nI 3).toInt) := by omega
      simp only [hA, hB, tx_then, tx_case, p_gNeedSealed, p_gNeedUnsealed, ap1, ap2, ap3, ap4, ap5, ap6, ap7, ap8, ap15, if_true, if_false, z10, z00, z20, z30, e21, e31, e32, e23, ite_self, and_self] at hu
      simp only [hA, hB2, tx_then, tx_case, p_gNeedSealed, p_gNeedUnsealed, ap1, ap2, ap3, ap4, ap5, ap6, ap7, ap8, ap15, if_true, if_false, z10, z00, z20, z30, e21, e31, e32, e23, ite_self, and_self] at hv
      cases hu
      cases hv
      exact ⟨rfl, fun h => absurd h (by decide), hR⟩
  · simp only [hA, tx_then, tx_case, p_gNeedSealed, p_gNeedUnsealed, ap1, ap2, ap3, ap4, ap5, ap6, ap7, ap8, ap15, if_true, if_false, z10, z00, z20, z30, e21, e31, e32, e23, ite_self] at hu
    simp only [hA, tx_then, tx_case, p_gNeedSealed, p_gNeedUnsealed, ap1, ap2, ap3, ap4, ap5, ap6, ap7, ap8, ap15, if_true, if_false, z10, z00, z20, z30, e21, e31, e32, e23, ite_self] at hv
    cases hu
    cases hv
    exact ⟨rfl, fun h => absurd h (by decide), hR⟩
set_option maxHeartbeats 2000000 in
theorem L_open (R : Rel x f y yl g) {u : (Nat → Int32) × (Nat → Int32) × (Nat → Int32) × (Nat → Int32) × (Nat → Int32) × (Nat → Int32) × (Nat → Int32) × (Nat → Int32) × Int32 × Int32 × Int32 × Int32 × Int32 × Int32 × Int32} (hu : u = p_gOpen (x 2) (x 3) (x 4) (x 5) (x 6) (x 7) (x 8) (x 9)) {v : Int32 × (Nat → Int32) × (Nat → Int32) × (Nat → Int32) × (Nat → Int32) × (Nat → Int32) × (Nat → Int32) × (Nat → Int32) × (Nat → Int32) × (Nat → Int32) × (Nat → Int32) × (Nat → Int32) × (Nat → Int32) × (Nat → Int32) × (Nat → Int32) × (Nat → Int32) × Int32 × Int32 × Int32 × Int32 × Int32 × Int32 × Int32 × Int32 × Int32} (hv : v = p_mOpen (y 1) (y 2) (y 3) (y 7) (y 14) (y 15) (y 4) (y 5) (y 6) (y 8) (y 16) (y 18) (y 19) (y 20) (y 21)) : Rel (va_up (va_up (va_up (va_up (va_up (va_up (va_up (va_up x 2 u.1) 3 u.2.1) 4 u.2.2.1) 5 u.2.2.2.1) 6 u.2.2.2.2.1) 7 u.2.2.2.2.2.1) 8 u.2.2.2.2.2.2.1) 9 u.2.2.2.2.2.2.2.1) (va_up (va_up (va_up (va_up (va_up (va_up (va_up f 1 u.2.2.2.2.2.2.2.2.1) 2 u.2.2.2.2.2.2.2.2.2.1) 3 u.2.2.2.2.2.2.2.2.2.2.1) 4 u.2.2.2.2.2.2.2.2.2.2.2.1) 5 u.2.2.2.2.2.2.2.2.2.2.2.2.1) 6 u.2.2.2.2.2.2.2.2.2.2.2.2.2.1) 0 u.2.2.2.2.2.2.2.2.2.2.2.2.2.2) (va_up (va_up (va_up (va_up (va_up (va_up (va_up (va_up (va_up (va_up (va_up (va_up (va_up (va_up (va_up y 1 v.2.1) 2 v.2.2.1) 3 v.2.2.2.1) 7 v.2.2.2.2.1) 14 v.2.2.2.2.2.1) 15 v.2.2.2.2.2.2.1) 4 v.2.2.2.2.2.2.2.1) 5 v.2.2.2.2.2.2.2.2.1) 6 v.2.2.2.2.2.2.2.2.2.1) 8 v.2.2.2.2.2.2.2.2.2.2.1) 16 v.2.2.2.2.2.2.2.2.2.2.2.1) 18 v.2.2.2.2.2.2.2.2.2.2.2.2.1) 19 v.2.2.2.2.2.2.2.2.2.2.2.2.2.1) 20 v.2.2.2.2.2.2.2.2.2.2.2.2.2.2.1) 21 v.2.2.2.2.2.2.2.2.2.2.2.2.2.2.2.1) yl (va_up (va_up (va_up (va_up (va_up (va_up (va_up (va_up (va_up (va_up g 0 v.1) 1 v.2.2.2.2.2.2.2.2.2.2.2.2.2.2.2.2.1) 2 v.2.2.2.2.2.2.2.2.2.2.2.2.2.2.2.2.2.1) 3 v.2.2.2.2.2.2.2.2.2.2.2.2.2.2.2.2.2.2.1) 4 v.2.2.2.2.2.2.2.2.2.2.2.2.2.2.2.2.2.2.2.1) 5 v.2.2.2.2.2.2.2.2.2.2.2.2.2.2.2.2.2.2.2.2.1) 6 v.2.2.2.2.2.2.2.2.2.2.2.2.2.2.2.2.2.2.2.2.2.1) 7 v.2.2.2.2.2.2.2.2.2.2.2.2.2.2.2.2.2.2.2.2.2.2.1) 8 v.2.2.2.2.2.2.2.2.2.2.2.2.2.2.2.2.2.2.2.2.2.2.2.1) 9 v.2.2.2.2.2.2.2.2.2.2.2.2.2.2.2.2.2.2.2.2.2.2.2.2) := by
  obtain ⟨⟨⟨c1, c2, c3⟩, ⟨d1, d2, d3⟩, cl, cp, ca, ck, cs, c0⟩, RR, ⟨A1, A2, A3, A4, A5, A6⟩, U, S⟩ := R
  unfold p_gOpen at hu
  rw [c_reset_lp] at hu
  simp only [ap14] at hu
  unfold p_mOpen at hv
  rw [m_begin_lp, ← c1, ← c2, ← c3, ← d1, ← d2, ← d3, ← cl, ← cp] at hv
  simp only [ap24] at hv
  subst hu
  subst hv
  exact rl_new rfl rfl rfl rfl rfl rfl rfl rfl rfl rfl rfl rfl rfl rfl rfl rfl rfl rfl rfl rfl rfl rfl rfl rfl rfl rfl rfl rfl rfl rfl rfl rfl rfl rfl rfl rfl rfl rfl A1 A2 A3 A5
set_option maxHeartbeats 2000000 in
theorem L_init (h1 : (x 2, x 3, x 4, x 5, x 6, x 7, x 8, x 9, f 1, f 2, f 3, f 4, f 5, f 6) = (p_reset z32 z32 z32 z32 z32 z32 z32 z32) ∧ x 10 = z32 ∧ x 12 = z32 ∧ x 13 = z32 ∧ x 15 = z32 ∧ x 16 = z32 ∧ x 17 = z32 ∧ x 18 = z32 ∧ x 19 = z32 ∧ x 21 = z32 ∧ x 22 = z32 ∧ x 23 = z32 ∧ x 24 = z32 ∧ x 25 = z32 ∧ x 26 = z32 ∧ x 27 = z32 ∧ f 0 = nI 0 ∧ f 7 = 0) (h2 : (y 1, y 2, y 3, y 7, y 14, y 15, y 4, y 5, y 6, y 8, y 16, y 18, y 19, y 20, y 21, g 1, g 2, g 3, g 4, g 5, g 6, g 7, g 8, g 9) = (p_mBegin z32 z32 z32 z32 z32 z32 z32 z32 z32 z32 z32 z32 z32 z32 z32) ∧ y 17 = z32 ∧ yl 9 = z64 ∧ yl 10 = z64 ∧ yl 11 = z64 ∧ yl 12 = z64 ∧ yl 13 = z64 ∧ g 0 = 0) : Rel x f y yl g := by
  obtain ⟨h1, z10, z12, z13, z15, z16, z17, z18, z19, z21, z22, z23, z24, z25, z26, z27, f0, f7⟩ := h1
  obtain ⟨h2, y17, l9, l10, l11, l12, l13, g0⟩ := h2
  rw [c_reset_lp] at h1
  rw [m_begin_lp] at h2
  simp only [Prod.mk.injEq] at h1 h2
  obtain ⟨a1, a2, a3, a4, a5, a6, a7, a8, b1, b2, b3, b4, b5, b6⟩ := h1
  obtain ⟨e1, e2, e3, e4, e5, e6, e7, e8, e9, e10, e11, e12, e13, e14, e15, j1, j2, j3, j4, j5, j6, j7, j8, j9⟩ := h2
  exact rl_new a1 a2 a3 a4 a5 a6 a7 a8 f0 b1 b2 b3 b4 b5 b6 e1 e2 e3 e7 e8 e9 e4 e10 e5 e6 e11 e12 e13 e14 e15 j1 j3 j4 j5 j6 j7 j8 j9 (fun j _ => by rw [z13]; rfl) (fun j _ => by rw [y17]; rfl) (fun j _ => by rw [z21]; exact vin_0) (fun j _ => by rw [z22]; show -1 ≤ (0 : Int32).toInt ∧ (0 : Int32).toInt ≤ 3; decide)
end CA
